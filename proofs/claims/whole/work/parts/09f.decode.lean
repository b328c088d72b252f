theorem dX12_ruled_83 : decode cX12_ruled 83 = .ok (.iload_n 3, 1) := by decide +kernel
theorem dX12_ruled_84 : decode cX12_ruled 84 = .ok (.invokevirtual 337, 3) := by decide +kernel
theorem dX12_ruled_87 : decode cX12_ruled 87 = .ok (.ifCond .eq 7, 3) := by decide +kernel
theorem dX12_ruled_90 : decode cX12_ruled 90 = .ok (.iconst 2, 1) := by decide +kernel
theorem dX12_ruled_91 : decode cX12_ruled 91 = .ok (.goto 4, 3) := by decide +kernel
theorem dX12_ruled_94 : decode cX12_ruled 94 = .ok (.iconst 1, 1) := by decide +kernel
theorem dX12_ruled_95 : decode cX12_ruled 95 = .ok (.ireturn, 1) := by decide +kernel
theorem dX12_ruled_96 : decode cX12_ruled 96 = .ok (.iinc 4 1, 3) := by decide +kernel
theorem dX12_ruled_99 : decode cX12_ruled 99 = .ok (.goto (-85), 3) := by decide +kernel
theorem dX12_ruled_102 : decode cX12_ruled 102 = .ok (.iconst 1, 1) := by decide +kernel
theorem dX12_ruled_103 : decode cX12_ruled 103 = .ok (.ireturn, 1) := by decide +kernel
theorem dX12_laysChances_0 : decode cX12_laysChances 0 = .ok (.aload_n 0, 1) := by decide +kernel
theorem dX12_laysChances_1 : decode cX12_laysChances 1 = .ok (.getfield 319, 3) := by decide +kernel
theorem dX12_laysChances_4 : decode cX12_laysChances 4 = .ok (.aload_n 0, 1) := by decide +kernel
theorem dX12_laysChances_5 : decode cX12_laysChances 5 = .ok (.getfield 143, 3) := by decide +kernel
theorem dX12_laysChances_8 : decode cX12_laysChances 8 = .ok (.if_icmp .eq 39, 3) := by decide +kernel
theorem dX12_laysChances_11 : decode cX12_laysChances 11 = .ok (.aload_n 0, 1) := by decide +kernel
theorem dX12_laysChances_12 : decode cX12_laysChances 12 = .ok (.aload_n 0, 1) := by decide +kernel
theorem dX12_laysChances_13 : decode cX12_laysChances 13 = .ok (.getfield 143, 3) := by decide +kernel
theorem dX12_laysChances_16 : decode cX12_laysChances 16 = .ok (.putfield 319, 3) := by decide +kernel
theorem dX12_laysChances_19 : decode cX12_laysChances 19 = .ok (.iconst 0, 1) := by decide +kernel
theorem dX12_laysChances_20 : decode cX12_laysChances 20 = .ok (.istore 4, 2) := by decide +kernel
theorem dX12_laysChances_22 : decode cX12_laysChances 22 = .ok (.iload 4, 2) := by decide +kernel
theorem dX12_laysChances_24 : decode cX12_laysChances 24 = .ok (.sipush 12544, 3) := by decide +kernel
theorem dX12_laysChances_27 : decode cX12_laysChances 27 = .ok (.if_icmp .ge 20, 3) := by decide +kernel
theorem dX12_laysChances_30 : decode cX12_laysChances 30 = .ok (.aload_n 0, 1) := by decide +kernel
theorem dX12_laysChances_31 : decode cX12_laysChances 31 = .ok (.getfield 69, 3) := by decide +kernel
theorem dX12_laysChances_34 : decode cX12_laysChances 34 = .ok (.bipush 7, 2) := by decide +kernel
theorem dX12_laysChances_36 : decode cX12_laysChances 36 = .ok (.iload 4, 2) := by decide +kernel
theorem dX12_laysChances_38 : decode cX12_laysChances 38 = .ok (.imul, 1) := by decide +kernel
theorem dX12_laysChances_39 : decode cX12_laysChances 39 = .ok (.iconst (-1), 1) := by decide +kernel
theorem dX12_laysChances_40 : decode cX12_laysChances 40 = .ok (.bastore, 1) := by decide +kernel
theorem dX12_laysChances_41 : decode cX12_laysChances 41 = .ok (.iinc 4 1, 3) := by decide +kernel
theorem dX12_laysChances_44 : decode cX12_laysChances 44 = .ok (.goto (-22), 3) := by decide +kernel
theorem dX12_laysChances_47 : decode cX12_laysChances 47 = .ok (.bipush 14, 2) := by decide +kernel
theorem dX12_laysChances_49 : decode cX12_laysChances 49 = .ok (.iload_n 1, 1) := by decide +kernel
theorem dX12_laysChances_50 : decode cX12_laysChances 50 = .ok (.imul, 1) := by decide +kernel
theorem dX12_laysChances_51 : decode cX12_laysChances 51 = .ok (.bipush 7, 2) := by decide +kernel
theorem dX12_laysChances_53 : decode cX12_laysChances 53 = .ok (.iload_n 3, 1) := by decide +kernel
theorem dX12_laysChances_54 : decode cX12_laysChances 54 = .ok (.iconst 1, 1) := by decide +kernel
theorem dX12_laysChances_55 : decode cX12_laysChances 55 = .ok (.isub, 1) := by decide +kernel
theorem dX12_laysChances_56 : decode cX12_laysChances 56 = .ok (.imul, 1) := by decide +kernel
theorem dX12_laysChances_57 : decode cX12_laysChances 57 = .ok (.iadd, 1) := by decide +kernel
theorem dX12_laysChances_58 : decode cX12_laysChances 58 = .ok (.istore 4, 2) := by decide +kernel
theorem dX12_laysChances_60 : decode cX12_laysChances 60 = .ok (.aload_n 0, 1) := by decide +kernel
theorem dX12_laysChances_61 : decode cX12_laysChances 61 = .ok (.getfield 69, 3) := by decide +kernel
theorem dX12_laysChances_64 : decode cX12_laysChances 64 = .ok (.iload 4, 2) := by decide +kernel
theorem dX12_laysChances_66 : decode cX12_laysChances 66 = .ok (.baload, 1) := by decide +kernel
theorem dX12_laysChances_67 : decode cX12_laysChances 67 = .ok (.iconst (-1), 1) := by decide +kernel
theorem dX12_laysChances_68 : decode cX12_laysChances 68 = .ok (.if_icmp .ne 45, 3) := by decide +kernel
theorem dX12_laysChances_71 : decode cX12_laysChances 71 = .ok (.aload_n 0, 1) := by decide +kernel
theorem dX12_laysChances_72 : decode cX12_laysChances 72 = .ok (.iload_n 1, 1) := by decide +kernel
theorem dX12_laysChances_73 : decode cX12_laysChances 73 = .ok (.iload_n 2, 1) := by decide +kernel
theorem dX12_laysChances_74 : decode cX12_laysChances 74 = .ok (.iload_n 3, 1) := by decide +kernel
theorem dX12_laysChances_75 : decode cX12_laysChances 75 = .ok (.invokevirtual 340, 3) := by decide +kernel
theorem dX12_laysChances_78 : decode cX12_laysChances 78 = .ok (.iconst 0, 1) := by decide +kernel
theorem dX12_laysChances_79 : decode cX12_laysChances 79 = .ok (.istore 5, 2) := by decide +kernel
theorem dX12_laysChances_81 : decode cX12_laysChances 81 = .ok (.iload 5, 2) := by decide +kernel
theorem dX12_laysChances_83 : decode cX12_laysChances 83 = .ok (.bipush 7, 2) := by decide +kernel
theorem dX12_laysChances_85 : decode cX12_laysChances 85 = .ok (.if_icmp .ge 27, 3) := by decide +kernel
theorem dX12_laysChances_88 : decode cX12_laysChances 88 = .ok (.aload_n 0, 1) := by decide +kernel
theorem dX12_laysChances_89 : decode cX12_laysChances 89 = .ok (.getfield 69, 3) := by decide +kernel
theorem dX12_laysChances_92 : decode cX12_laysChances 92 = .ok (.iload 4, 2) := by decide +kernel
theorem dX12_laysChances_94 : decode cX12_laysChances 94 = .ok (.iload 5, 2) := by decide +kernel
theorem dX12_laysChances_96 : decode cX12_laysChances 96 = .ok (.iadd, 1) := by decide +kernel
theorem dX12_laysChances_97 : decode cX12_laysChances 97 = .ok (.aload_n 0, 1) := by decide +kernel
theorem dX12_laysChances_98 : decode cX12_laysChances 98 = .ok (.getfield 65, 3) := by decide +kernel
theorem dX12_laysChances_101 : decode cX12_laysChances 101 = .ok (.iload 5, 2) := by decide +kernel
theorem dX12_laysChances_103 : decode cX12_laysChances 103 = .ok (.iaload, 1) := by decide +kernel
theorem dX12_laysChances_104 : decode cX12_laysChances 104 = .ok (.i2b, 1) := by decide +kernel
theorem dX12_laysChances_105 : decode cX12_laysChances 105 = .ok (.bastore, 1) := by decide +kernel
theorem dX12_laysChances_106 : decode cX12_laysChances 106 = .ok (.iinc 5 1, 3) := by decide +kernel
theorem dX12_laysChances_109 : decode cX12_laysChances 109 = .ok (.goto (-28), 3) := by decide +kernel
theorem dX12_laysChances_112 : decode cX12_laysChances 112 = .ok (.return_, 1) := by decide +kernel
theorem dX12_laysChances_113 : decode cX12_laysChances 113 = .ok (.iconst 0, 1) := by decide +kernel
theorem dX12_laysChances_114 : decode cX12_laysChances 114 = .ok (.istore 5, 2) := by decide +kernel
theorem dX12_laysChances_116 : decode cX12_laysChances 116 = .ok (.iload 5, 2) := by decide +kernel
theorem dX12_laysChances_118 : decode cX12_laysChances 118 = .ok (.bipush 7, 2) := by decide +kernel
theorem dX12_laysChances_120 : decode cX12_laysChances 120 = .ok (.if_icmp .ge 26, 3) := by decide +kernel
theorem dX12_laysChances_123 : decode cX12_laysChances 123 = .ok (.aload_n 0, 1) := by decide +kernel
theorem dX12_laysChances_124 : decode cX12_laysChances 124 = .ok (.getfield 65, 3) := by decide +kernel
theorem dX12_laysChances_127 : decode cX12_laysChances 127 = .ok (.iload 5, 2) := by decide +kernel
theorem dX12_laysChances_129 : decode cX12_laysChances 129 = .ok (.aload_n 0, 1) := by decide +kernel
theorem dX12_laysChances_130 : decode cX12_laysChances 130 = .ok (.getfield 69, 3) := by decide +kernel
theorem dX12_laysChances_133 : decode cX12_laysChances 133 = .ok (.iload 4, 2) := by decide +kernel
theorem dX12_laysChances_135 : decode cX12_laysChances 135 = .ok (.iload 5, 2) := by decide +kernel
theorem dX12_laysChances_137 : decode cX12_laysChances 137 = .ok (.iadd, 1) := by decide +kernel
theorem dX12_laysChances_138 : decode cX12_laysChances 138 = .ok (.baload, 1) := by decide +kernel
theorem dX12_laysChances_139 : decode cX12_laysChances 139 = .ok (.iastore, 1) := by decide +kernel
theorem dX12_laysChances_140 : decode cX12_laysChances 140 = .ok (.iinc 5 1, 3) := by decide +kernel
theorem dX12_laysChances_143 : decode cX12_laysChances 143 = .ok (.goto (-27), 3) := by decide +kernel
theorem dX12_laysChances_146 : decode cX12_laysChances 146 = .ok (.return_, 1) := by decide +kernel
theorem dX12_asksChances_0 : decode cX12_asksChances 0 = .ok (.aload_n 0, 1) := by decide +kernel
theorem dX12_asksChances_1 : decode cX12_asksChances 1 = .ok (.iload_n 1, 1) := by decide +kernel
theorem dX12_asksChances_2 : decode cX12_asksChances 2 = .ok (.iload_n 2, 1) := by decide +kernel
theorem dX12_asksChances_3 : decode cX12_asksChances 3 = .ok (.invokevirtual 334, 3) := by decide +kernel
theorem dX12_asksChances_6 : decode cX12_asksChances 6 = .ok (.iconst 0, 1) := by decide +kernel
theorem dX12_asksChances_7 : decode cX12_asksChances 7 = .ok (.istore 4, 2) := by decide +kernel
theorem dX12_asksChances_9 : decode cX12_asksChances 9 = .ok (.iload 4, 2) := by decide +kernel
theorem dX12_asksChances_11 : decode cX12_asksChances 11 = .ok (.bipush 7, 2) := by decide +kernel
theorem dX12_asksChances_13 : decode cX12_asksChances 13 = .ok (.if_icmp .ge 17, 3) := by decide +kernel
theorem dX12_asksChances_16 : decode cX12_asksChances 16 = .ok (.aload_n 0, 1) := by decide +kernel
theorem dX12_asksChances_17 : decode cX12_asksChances 17 = .ok (.getfield 65, 3) := by decide +kernel
theorem dX12_asksChances_20 : decode cX12_asksChances 20 = .ok (.iload 4, 2) := by decide +kernel
theorem dX12_asksChances_22 : decode cX12_asksChances 22 = .ok (.iconst 0, 1) := by decide +kernel
theorem dX12_asksChances_23 : decode cX12_asksChances 23 = .ok (.iastore, 1) := by decide +kernel
theorem dX12_asksChances_24 : decode cX12_asksChances 24 = .ok (.iinc 4 1, 3) := by decide +kernel
theorem dX12_asksChances_27 : decode cX12_asksChances 27 = .ok (.goto (-18), 3) := by decide +kernel
theorem dX12_asksChances_30 : decode cX12_asksChances 30 = .ok (.iload_n 3, 1) := by decide +kernel
theorem dX12_asksChances_31 : decode cX12_asksChances 31 = .ok (.iconst 2, 1) := by decide +kernel
theorem dX12_asksChances_32 : decode cX12_asksChances 32 = .ok (.if_icmp .ne 64, 3) := by decide +kernel
theorem dX12_asksChances_35 : decode cX12_asksChances 35 = .ok (.aload_n 0, 1) := by decide +kernel
theorem dX12_asksChances_36 : decode cX12_asksChances 36 = .ok (.bipush 104, 2) := by decide +kernel
theorem dX12_asksChances_38 : decode cX12_asksChances 38 = .ok (.bipush 10, 2) := by decide +kernel
theorem dX12_asksChances_40 : decode cX12_asksChances 40 = .ok (.invokevirtual 344, 3) := by decide +kernel
theorem dX12_asksChances_43 : decode cX12_asksChances 43 = .ok (.istore 4, 2) := by decide +kernel
theorem dX12_asksChances_45 : decode cX12_asksChances 45 = .ok (.aload_n 0, 1) := by decide +kernel
theorem dX12_asksChances_46 : decode cX12_asksChances 46 = .ok (.bipush 107, 2) := by decide +kernel
theorem dX12_asksChances_48 : decode cX12_asksChances 48 = .ok (.bipush 10, 2) := by decide +kernel
theorem dX12_asksChances_50 : decode cX12_asksChances 50 = .ok (.invokevirtual 344, 3) := by decide +kernel
theorem dX12_asksChances_53 : decode cX12_asksChances 53 = .ok (.istore 5, 2) := by decide +kernel
theorem dX12_asksChances_55 : decode cX12_asksChances 55 = .ok (.aload_n 0, 1) := by decide +kernel
theorem dX12_asksChances_56 : decode cX12_asksChances 56 = .ok (.getfield 65, 3) := by decide +kernel
theorem dX12_asksChances_59 : decode cX12_asksChances 59 = .ok (.iconst 4, 1) := by decide +kernel
theorem dX12_asksChances_60 : decode cX12_asksChances 60 = .ok (.iload 4, 2) := by decide +kernel
theorem dX12_asksChances_62 : decode cX12_asksChances 62 = .ok (.iload 5, 2) := by decide +kernel
theorem dX12_asksChances_64 : decode cX12_asksChances 64 = .ok (.imul, 1) := by decide +kernel
theorem dX12_asksChances_65 : decode cX12_asksChances 65 = .ok (.iastore, 1) := by decide +kernel
theorem dX12_asksChances_66 : decode cX12_asksChances 66 = .ok (.aload_n 0, 1) := by decide +kernel
theorem dX12_asksChances_67 : decode cX12_asksChances 67 = .ok (.getfield 65, 3) := by decide +kernel
theorem dX12_asksChances_70 : decode cX12_asksChances 70 = .ok (.iconst 5, 1) := by decide +kernel
theorem dX12_asksChances_71 : decode cX12_asksChances 71 = .ok (.iload 4, 2) := by decide +kernel
theorem dX12_asksChances_73 : decode cX12_asksChances 73 = .ok (.bipush 10, 2) := by decide +kernel
theorem dX12_asksChances_75 : decode cX12_asksChances 75 = .ok (.iload 5, 2) := by decide +kernel
theorem dX12_asksChances_77 : decode cX12_asksChances 77 = .ok (.isub, 1) := by decide +kernel
theorem dX12_asksChances_78 : decode cX12_asksChances 78 = .ok (.imul, 1) := by decide +kernel
theorem dX12_asksChances_79 : decode cX12_asksChances 79 = .ok (.iastore, 1) := by decide +kernel
theorem dX12_asksChances_80 : decode cX12_asksChances 80 = .ok (.aload_n 0, 1) := by decide +kernel
theorem dX12_asksChances_81 : decode cX12_asksChances 81 = .ok (.getfield 65, 3) := by decide +kernel
theorem dX12_asksChances_84 : decode cX12_asksChances 84 = .ok (.bipush 6, 2) := by decide +kernel
theorem dX12_asksChances_86 : decode cX12_asksChances 86 = .ok (.bipush 100, 2) := by decide +kernel
theorem dX12_asksChances_88 : decode cX12_asksChances 88 = .ok (.bipush 10, 2) := by decide +kernel
theorem dX12_asksChances_90 : decode cX12_asksChances 90 = .ok (.iload 4, 2) := by decide +kernel
theorem dX12_asksChances_92 : decode cX12_asksChances 92 = .ok (.imul, 1) := by decide +kernel
theorem dX12_asksChances_93 : decode cX12_asksChances 93 = .ok (.isub, 1) := by decide +kernel
theorem dX12_asksChances_94 : decode cX12_asksChances 94 = .ok (.iastore, 1) := by decide +kernel
theorem dX12_asksChances_95 : decode cX12_asksChances 95 = .ok (.return_, 1) := by decide +kernel
theorem dX12_asksChances_96 : decode cX12_asksChances 96 = .ok (.bipush 10, 2) := by decide +kernel
theorem dX12_asksChances_98 : decode cX12_asksChances 98 = .ok (.istore 4, 2) := by decide +kernel
theorem dX12_asksChances_100 : decode cX12_asksChances 100 = .ok (.aload_n 0, 1) := by decide +kernel
theorem dX12_asksChances_101 : decode cX12_asksChances 101 = .ok (.getfield 65, 3) := by decide +kernel
theorem dX12_asksChances_104 : decode cX12_asksChances 104 = .ok (.iconst 0, 1) := by decide +kernel
theorem dX12_asksChances_105 : decode cX12_asksChances 105 = .ok (.bipush 10, 2) := by decide +kernel
theorem dX12_asksChances_107 : decode cX12_asksChances 107 = .ok (.aload_n 0, 1) := by decide +kernel
theorem dX12_asksChances_108 : decode cX12_asksChances 108 = .ok (.bipush 97, 2) := by decide +kernel
theorem dX12_asksChances_110 : decode cX12_asksChances 110 = .ok (.iload 4, 2) := by decide +kernel
theorem dX12_asksChances_112 : decode cX12_asksChances 112 = .ok (.invokevirtual 344, 3) := by decide +kernel
theorem dX12_asksChances_115 : decode cX12_asksChances 115 = .ok (.imul, 1) := by decide +kernel
theorem dX12_asksChances_116 : decode cX12_asksChances 116 = .ok (.iastore, 1) := by decide +kernel
theorem dX12_asksChances_117 : decode cX12_asksChances 117 = .ok (.iload 4, 2) := by decide +kernel
theorem dX12_asksChances_119 : decode cX12_asksChances 119 = .ok (.aload_n 0, 1) := by decide +kernel
theorem dX12_asksChances_120 : decode cX12_asksChances 120 = .ok (.getfield 65, 3) := by decide +kernel
theorem dX12_asksChances_123 : decode cX12_asksChances 123 = .ok (.iconst 0, 1) := by decide +kernel
theorem dX12_asksChances_124 : decode cX12_asksChances 124 = .ok (.iaload, 1) := by decide +kernel
theorem dX12_asksChances_125 : decode cX12_asksChances 125 = .ok (.bipush 10, 2) := by decide +kernel
theorem dX12_asksChances_127 : decode cX12_asksChances 127 = .ok (.idiv, 1) := by decide +kernel
theorem dX12_asksChances_128 : decode cX12_asksChances 128 = .ok (.isub, 1) := by decide +kernel
theorem dX12_asksChances_129 : decode cX12_asksChances 129 = .ok (.istore 4, 2) := by decide +kernel
theorem dX12_asksChances_131 : decode cX12_asksChances 131 = .ok (.aload_n 0, 1) := by decide +kernel
theorem dX12_asksChances_132 : decode cX12_asksChances 132 = .ok (.getfield 65, 3) := by decide +kernel
theorem dX12_asksChances_135 : decode cX12_asksChances 135 = .ok (.iconst 1, 1) := by decide +kernel
theorem dX12_asksChances_136 : decode cX12_asksChances 136 = .ok (.bipush 10, 2) := by decide +kernel
theorem dX12_asksChances_138 : decode cX12_asksChances 138 = .ok (.aload_n 0, 1) := by decide +kernel
theorem dX12_asksChances_139 : decode cX12_asksChances 139 = .ok (.bipush 98, 2) := by decide +kernel
theorem dX12_asksChances_141 : decode cX12_asksChances 141 = .ok (.iload 4, 2) := by decide +kernel
theorem dX12_asksChances_143 : decode cX12_asksChances 143 = .ok (.invokevirtual 344, 3) := by decide +kernel
theorem dX12_asksChances_146 : decode cX12_asksChances 146 = .ok (.imul, 1) := by decide +kernel
theorem dX12_asksChances_147 : decode cX12_asksChances 147 = .ok (.iastore, 1) := by decide +kernel
theorem dX12_asksChances_148 : decode cX12_asksChances 148 = .ok (.iload 4, 2) := by decide +kernel
theorem dX12_asksChances_150 : decode cX12_asksChances 150 = .ok (.aload_n 0, 1) := by decide +kernel
theorem dX12_asksChances_151 : decode cX12_asksChances 151 = .ok (.getfield 65, 3) := by decide +kernel
theorem dX12_asksChances_154 : decode cX12_asksChances 154 = .ok (.iconst 1, 1) := by decide +kernel
theorem dX12_asksChances_155 : decode cX12_asksChances 155 = .ok (.iaload, 1) := by decide +kernel
theorem dX12_asksChances_156 : decode cX12_asksChances 156 = .ok (.bipush 10, 2) := by decide +kernel
theorem dX12_asksChances_158 : decode cX12_asksChances 158 = .ok (.idiv, 1) := by decide +kernel
theorem dX12_asksChances_159 : decode cX12_asksChances 159 = .ok (.isub, 1) := by decide +kernel
theorem dX12_asksChances_160 : decode cX12_asksChances 160 = .ok (.istore 4, 2) := by decide +kernel
theorem dX12_asksChances_162 : decode cX12_asksChances 162 = .ok (.aload_n 0, 1) := by decide +kernel
theorem dX12_asksChances_163 : decode cX12_asksChances 163 = .ok (.getfield 65, 3) := by decide +kernel
theorem dX12_asksChances_166 : decode cX12_asksChances 166 = .ok (.iconst 2, 1) := by decide +kernel
theorem dX12_asksChances_167 : decode cX12_asksChances 167 = .ok (.bipush 10, 2) := by decide +kernel
theorem dX12_asksChances_169 : decode cX12_asksChances 169 = .ok (.aload_n 0, 1) := by decide +kernel
theorem dX12_asksChances_170 : decode cX12_asksChances 170 = .ok (.bipush 99, 2) := by decide +kernel
theorem dX12_asksChances_172 : decode cX12_asksChances 172 = .ok (.iload 4, 2) := by decide +kernel
theorem dX12_asksChances_174 : decode cX12_asksChances 174 = .ok (.invokevirtual 344, 3) := by decide +kernel
theorem dX12_asksChances_177 : decode cX12_asksChances 177 = .ok (.imul, 1) := by decide +kernel
theorem dX12_asksChances_178 : decode cX12_asksChances 178 = .ok (.iastore, 1) := by decide +kernel
theorem dX12_asksChances_179 : decode cX12_asksChances 179 = .ok (.aload_n 0, 1) := by decide +kernel
theorem dX12_asksChances_180 : decode cX12_asksChances 180 = .ok (.getfield 65, 3) := by decide +kernel
theorem dX12_asksChances_183 : decode cX12_asksChances 183 = .ok (.iconst 3, 1) := by decide +kernel
theorem dX12_asksChances_184 : decode cX12_asksChances 184 = .ok (.bipush 10, 2) := by decide +kernel
theorem dX12_asksChances_186 : decode cX12_asksChances 186 = .ok (.iload 4, 2) := by decide +kernel
theorem dX12_asksChances_188 : decode cX12_asksChances 188 = .ok (.imul, 1) := by decide +kernel
theorem dX12_asksChances_189 : decode cX12_asksChances 189 = .ok (.aload_n 0, 1) := by decide +kernel
theorem dX12_asksChances_190 : decode cX12_asksChances 190 = .ok (.getfield 65, 3) := by decide +kernel
theorem dX12_asksChances_193 : decode cX12_asksChances 193 = .ok (.iconst 2, 1) := by decide +kernel
theorem dX12_asksChances_194 : decode cX12_asksChances 194 = .ok (.iaload, 1) := by decide +kernel
theorem dX12_asksChances_195 : decode cX12_asksChances 195 = .ok (.isub, 1) := by decide +kernel
theorem dX12_asksChances_196 : decode cX12_asksChances 196 = .ok (.iastore, 1) := by decide +kernel
theorem dX12_asksChances_197 : decode cX12_asksChances 197 = .ok (.return_, 1) := by decide +kernel
theorem dX12_behind_0 : decode cX12_behind 0 = .ok (.iload_n 1, 1) := by decide +kernel
theorem dX12_behind_1 : decode cX12_behind 1 = .ok (.iload_n 2, 1) := by decide +kernel
theorem dX12_behind_2 : decode cX12_behind 2 = .ok (.invokestatic 181, 3) := by decide +kernel
theorem dX12_behind_5 : decode cX12_behind 5 = .ok (.istore 4, 2) := by decide +kernel
theorem dX12_behind_7 : decode cX12_behind 7 = .ok (.iload_n 1, 1) := by decide +kernel
theorem dX12_behind_8 : decode cX12_behind 8 = .ok (.iconst 1, 1) := by decide +kernel
theorem dX12_behind_9 : decode cX12_behind 9 = .ok (.iload_n 2, 1) := by decide +kernel
theorem dX12_behind_10 : decode cX12_behind 10 = .ok (.isub, 1) := by decide +kernel
theorem dX12_behind_11 : decode cX12_behind 11 = .ok (.invokestatic 181, 3) := by decide +kernel
theorem dX12_behind_14 : decode cX12_behind 14 = .ok (.istore 5, 2) := by decide +kernel
theorem dX12_behind_16 : decode cX12_behind 16 = .ok (.iload_n 3, 1) := by decide +kernel
theorem dX12_behind_17 : decode cX12_behind 17 = .ok (.iconst 4, 1) := by decide +kernel
theorem dX12_behind_18 : decode cX12_behind 18 = .ok (.if_icmp .ge 7, 3) := by decide +kernel
theorem dX12_behind_21 : decode cX12_behind 21 = .ok (.iload_n 3, 1) := by decide +kernel
theorem dX12_behind_22 : decode cX12_behind 22 = .ok (.goto 18, 3) := by decide +kernel
theorem dX12_behind_25 : decode cX12_behind 25 = .ok (.iload_n 3, 1) := by decide +kernel
theorem dX12_behind_26 : decode cX12_behind 26 = .ok (.iconst 4, 1) := by decide +kernel
theorem dX12_behind_27 : decode cX12_behind 27 = .ok (.if_icmp .ne 12, 3) := by decide +kernel
theorem dX12_behind_30 : decode cX12_behind 30 = .ok (.aload_n 0, 1) := by decide +kernel
theorem dX12_behind_31 : decode cX12_behind 31 = .ok (.iload 5, 2) := by decide +kernel
theorem dX12_behind_33 : decode cX12_behind 33 = .ok (.invokevirtual 170, 3) := by decide +kernel
theorem dX12_behind_36 : decode cX12_behind 36 = .ok (.goto 4, 3) := by decide +kernel
theorem dX12_behind_39 : decode cX12_behind 39 = .ok (.iconst 4, 1) := by decide +kernel
theorem dX12_behind_40 : decode cX12_behind 40 = .ok (.istore 6, 2) := by decide +kernel
theorem dX12_behind_42 : decode cX12_behind 42 = .ok (.aload_n 0, 1) := by decide +kernel
theorem dX12_behind_43 : decode cX12_behind 43 = .ok (.getfield 13, 3) := by decide +kernel
theorem dX12_behind_46 : decode cX12_behind 46 = .ok (.iconst 5, 1) := by decide +kernel
theorem dX12_behind_47 : decode cX12_behind 47 = .ok (.iload 4, 2) := by decide +kernel
theorem dX12_behind_49 : decode cX12_behind 49 = .ok (.imul, 1) := by decide +kernel
theorem dX12_behind_50 : decode cX12_behind 50 = .ok (.iload 6, 2) := by decide +kernel
theorem dX12_behind_52 : decode cX12_behind 52 = .ok (.iadd, 1) := by decide +kernel
theorem dX12_behind_53 : decode cX12_behind 53 = .ok (.iaload, 1) := by decide +kernel
theorem dX12_behind_54 : decode cX12_behind 54 = .ok (.istore 7, 2) := by decide +kernel
theorem dX12_behind_56 : decode cX12_behind 56 = .ok (.iload_n 3, 1) := by decide +kernel
theorem dX12_behind_57 : decode cX12_behind 57 = .ok (.iconst 4, 1) := by decide +kernel
theorem dX12_behind_58 : decode cX12_behind 58 = .ok (.if_icmp .eq 8, 3) := by decide +kernel
theorem dX12_behind_61 : decode cX12_behind 61 = .ok (.iload_n 3, 1) := by decide +kernel
theorem dX12_behind_62 : decode cX12_behind 62 = .ok (.iconst 5, 1) := by decide +kernel
theorem dX12_behind_63 : decode cX12_behind 63 = .ok (.if_icmp .ne 13, 3) := by decide +kernel
theorem dX12_behind_66 : decode cX12_behind 66 = .ok (.aload_n 0, 1) := by decide +kernel
theorem dX12_behind_67 : decode cX12_behind 67 = .ok (.getfield 16, 3) := by decide +kernel
theorem dX12_behind_70 : decode cX12_behind 70 = .ok (.iload 5, 2) := by decide +kernel
theorem dX12_behind_72 : decode cX12_behind 72 = .ok (.iaload, 1) := by decide +kernel
theorem dX12_behind_73 : decode cX12_behind 73 = .ok (.goto 5, 3) := by decide +kernel
theorem dX12_behind_76 : decode cX12_behind 76 = .ok (.iload 5, 2) := by decide +kernel
theorem dX12_behind_78 : decode cX12_behind 78 = .ok (.istore 8, 2) := by decide +kernel
theorem dX12_behind_80 : decode cX12_behind 80 = .ok (.iload_n 2, 1) := by decide +kernel
theorem dX12_behind_81 : decode cX12_behind 81 = .ok (.ifCond .ne 14, 3) := by decide +kernel
theorem dX12_behind_84 : decode cX12_behind 84 = .ok (.iload 7, 2) := by decide +kernel
theorem dX12_behind_86 : decode cX12_behind 86 = .ok (.iload 8, 2) := by decide +kernel
theorem dX12_behind_88 : decode cX12_behind 88 = .ok (.iconst 0, 1) := by decide +kernel
theorem dX12_behind_89 : decode cX12_behind 89 = .ok (.invokestatic 199, 3) := by decide +kernel
theorem dX12_behind_92 : decode cX12_behind 92 = .ok (.goto 11, 3) := by decide +kernel
theorem dX12_behind_95 : decode cX12_behind 95 = .ok (.iload 8, 2) := by decide +kernel
theorem dX12_behind_97 : decode cX12_behind 97 = .ok (.iload 7, 2) := by decide +kernel
theorem dX12_behind_99 : decode cX12_behind 99 = .ok (.iconst 1, 1) := by decide +kernel
theorem dX12_behind_100 : decode cX12_behind 100 = .ok (.invokestatic 199, 3) := by decide +kernel
theorem dX12_behind_103 : decode cX12_behind 103 = .ok (.ireturn, 1) := by decide +kernel
theorem dX12_chance_0 : decode cX12_chance 0 = .ok (.aload_n 0, 1) := by decide +kernel
theorem dX12_chance_1 : decode cX12_chance 1 = .ok (.iload_n 1, 1) := by decide +kernel
theorem dX12_chance_2 : decode cX12_chance 2 = .ok (.iload_n 2, 1) := by decide +kernel
theorem dX12_chance_3 : decode cX12_chance 3 = .ok (.iload_n 3, 1) := by decide +kernel
theorem dX12_chance_4 : decode cX12_chance 4 = .ok (.invokevirtual 203, 3) := by decide +kernel
theorem dX12_chance_7 : decode cX12_chance 7 = .ok (.istore 6, 2) := by decide +kernel
theorem dX12_chance_9 : decode cX12_chance 9 = .ok (.iload 6, 2) := by decide +kernel
theorem dX12_chance_11 : decode cX12_chance 11 = .ok (.iconst (-1), 1) := by decide +kernel
theorem dX12_chance_12 : decode cX12_chance 12 = .ok (.if_icmp .eq 23, 3) := by decide +kernel
theorem dX12_chance_15 : decode cX12_chance 15 = .ok (.iload 4, 2) := by decide +kernel
theorem dX12_chance_17 : decode cX12_chance 17 = .ok (.iconst 1, 1) := by decide +kernel
theorem dX12_chance_18 : decode cX12_chance 18 = .ok (.iconst 2, 1) := by decide +kernel
theorem dX12_chance_19 : decode cX12_chance 19 = .ok (.invokestatic 173, 3) := by decide +kernel
theorem dX12_chance_22 : decode cX12_chance 22 = .ok (.ifCond .eq 13, 3) := by decide +kernel
theorem dX12_chance_25 : decode cX12_chance 25 = .ok (.aload_n 0, 1) := by decide +kernel
theorem dX12_chance_26 : decode cX12_chance 26 = .ok (.iload 6, 2) := by decide +kernel
theorem dX12_chance_28 : decode cX12_chance 28 = .ok (.invokevirtual 206, 3) := by decide +kernel
theorem dX12_chance_31 : decode cX12_chance 31 = .ok (.iconst 2, 1) := by decide +kernel
theorem dX12_chance_32 : decode cX12_chance 32 = .ok (.if_icmp .ne 5, 3) := by decide +kernel
theorem dX12_chance_35 : decode cX12_chance 35 = .ok (.iconst (-1), 1) := by decide +kernel
theorem dX12_chance_36 : decode cX12_chance 36 = .ok (.ireturn, 1) := by decide +kernel
theorem dX12_chance_37 : decode cX12_chance 37 = .ok (.iload 4, 2) := by decide +kernel
theorem dX12_chance_39 : decode cX12_chance 39 = .ok (.iconst 1, 1) := by decide +kernel
theorem dX12_chance_40 : decode cX12_chance 40 = .ok (.if_icmp .ne 16, 3) := by decide +kernel
theorem dX12_chance_43 : decode cX12_chance 43 = .ok (.iload 5, 2) := by decide +kernel
theorem dX12_chance_45 : decode cX12_chance 45 = .ok (.iconst 0, 1) := by decide +kernel
theorem dX12_chance_46 : decode cX12_chance 46 = .ok (.iconst 3, 1) := by decide +kernel
theorem dX12_chance_47 : decode cX12_chance 47 = .ok (.invokestatic 173, 3) := by decide +kernel
theorem dX12_chance_50 : decode cX12_chance 50 = .ok (.ifCond .ne 34, 3) := by decide +kernel
theorem dX12_chance_53 : decode cX12_chance 53 = .ok (.goto 29, 3) := by decide +kernel
theorem dX12_chance_56 : decode cX12_chance 56 = .ok (.iload 5, 2) := by decide +kernel
theorem dX12_chance_58 : decode cX12_chance 58 = .ok (.iconst 4, 1) := by decide +kernel
theorem dX12_chance_59 : decode cX12_chance 59 = .ok (.bipush 6, 2) := by decide +kernel
theorem dX12_chance_61 : decode cX12_chance 61 = .ok (.invokestatic 173, 3) := by decide +kernel
theorem dX12_chance_64 : decode cX12_chance 64 = .ok (.ifCond .eq 18, 3) := by decide +kernel
theorem dX12_chance_67 : decode cX12_chance 67 = .ok (.aload_n 0, 1) := by decide +kernel
theorem dX12_chance_68 : decode cX12_chance 68 = .ok (.iload 6, 2) := by decide +kernel
theorem dX12_chance_70 : decode cX12_chance 70 = .ok (.aload_n 0, 1) := by decide +kernel
theorem dX12_chance_71 : decode cX12_chance 71 = .ok (.iload 6, 2) := by decide +kernel
theorem dX12_chance_73 : decode cX12_chance 73 = .ok (.invokevirtual 206, 3) := by decide +kernel
theorem dX12_chance_76 : decode cX12_chance 76 = .ok (.invokevirtual 337, 3) := by decide +kernel
theorem dX12_chance_79 : decode cX12_chance 79 = .ok (.ifCond .ne 5, 3) := by decide +kernel
theorem dX12_chance_82 : decode cX12_chance 82 = .ok (.iconst (-1), 1) := by decide +kernel
theorem dX12_chance_83 : decode cX12_chance 83 = .ok (.ireturn, 1) := by decide +kernel
theorem dX12_chance_84 : decode cX12_chance 84 = .ok (.aload_n 0, 1) := by decide +kernel
theorem dX12_chance_85 : decode cX12_chance 85 = .ok (.iload 6, 2) := by decide +kernel
theorem dX12_chance_87 : decode cX12_chance 87 = .ok (.aload_n 0, 1) := by decide +kernel
theorem dX12_chance_88 : decode cX12_chance 88 = .ok (.iload 6, 2) := by decide +kernel
theorem dX12_chance_90 : decode cX12_chance 90 = .ok (.invokevirtual 206, 3) := by decide +kernel
theorem dX12_chance_93 : decode cX12_chance 93 = .ok (.iload 4, 2) := by decide +kernel
theorem dX12_chance_95 : decode cX12_chance 95 = .ok (.invokevirtual 347, 3) := by decide +kernel
theorem dX12_chance_98 : decode cX12_chance 98 = .ok (.aload_n 0, 1) := by decide +kernel
theorem dX12_chance_99 : decode cX12_chance 99 = .ok (.getfield 65, 3) := by decide +kernel
theorem dX12_chance_102 : decode cX12_chance 102 = .ok (.iload 5, 2) := by decide +kernel
theorem dX12_chance_104 : decode cX12_chance 104 = .ok (.iaload, 1) := by decide +kernel
theorem dX12_chance_105 : decode cX12_chance 105 = .ok (.ireturn, 1) := by decide +kernel
theorem dX12_valueBy_0 : decode cX12_valueBy 0 = .ok (.aload_n 0, 1) := by decide +kernel
theorem dX12_valueBy_1 : decode cX12_valueBy 1 = .ok (.iload_n 1, 1) := by decide +kernel
theorem dX12_valueBy_2 : decode cX12_valueBy 2 = .ok (.iload_n 2, 1) := by decide +kernel
theorem dX12_valueBy_3 : decode cX12_valueBy 3 = .ok (.iload_n 3, 1) := by decide +kernel
theorem dX12_valueBy_4 : decode cX12_valueBy 4 = .ok (.invokevirtual 347, 3) := by decide +kernel
theorem dX12_valueBy_7 : decode cX12_valueBy 7 = .ok (.lconst 0, 1) := by decide +kernel
theorem dX12_valueBy_8 : decode cX12_valueBy 8 = .ok (.lstore 5, 2) := by decide +kernel
theorem dX12_valueBy_10 : decode cX12_valueBy 10 = .ok (.iconst 0, 1) := by decide +kernel
theorem dX12_valueBy_11 : decode cX12_valueBy 11 = .ok (.istore 7, 2) := by decide +kernel
theorem dX12_valueBy_13 : decode cX12_valueBy 13 = .ok (.iload 7, 2) := by decide +kernel
theorem dX12_valueBy_15 : decode cX12_valueBy 15 = .ok (.bipush 7, 2) := by decide +kernel
theorem dX12_valueBy_17 : decode cX12_valueBy 17 = .ok (.if_icmp .ge 44, 3) := by decide +kernel
theorem dX12_valueBy_20 : decode cX12_valueBy 20 = .ok (.aload_n 0, 1) := by decide +kernel
theorem dX12_valueBy_21 : decode cX12_valueBy 21 = .ok (.getfield 65, 3) := by decide +kernel
theorem dX12_valueBy_24 : decode cX12_valueBy 24 = .ok (.iload 7, 2) := by decide +kernel
theorem dX12_valueBy_26 : decode cX12_valueBy 26 = .ok (.iaload, 1) := by decide +kernel
theorem dX12_valueBy_27 : decode cX12_valueBy 27 = .ok (.ifCond .le 28, 3) := by decide +kernel
theorem dX12_valueBy_30 : decode cX12_valueBy 30 = .ok (.lload 5, 2) := by decide +kernel
theorem dX12_valueBy_32 : decode cX12_valueBy 32 = .ok (.aload_n 0, 1) := by decide +kernel
theorem dX12_valueBy_33 : decode cX12_valueBy 33 = .ok (.getfield 65, 3) := by decide +kernel
theorem dX12_valueBy_36 : decode cX12_valueBy 36 = .ok (.iload 7, 2) := by decide +kernel
theorem dX12_valueBy_38 : decode cX12_valueBy 38 = .ok (.iaload, 1) := by decide +kernel
theorem dX12_valueBy_39 : decode cX12_valueBy 39 = .ok (.i2l, 1) := by decide +kernel
theorem dX12_valueBy_40 : decode cX12_valueBy 40 = .ok (.aload 4, 2) := by decide +kernel
theorem dX12_valueBy_42 : decode cX12_valueBy 42 = .ok (.aload_n 0, 1) := by decide +kernel
theorem dX12_valueBy_43 : decode cX12_valueBy 43 = .ok (.iload_n 1, 1) := by decide +kernel
theorem dX12_valueBy_44 : decode cX12_valueBy 44 = .ok (.iload_n 2, 1) := by decide +kernel
theorem dX12_valueBy_45 : decode cX12_valueBy 45 = .ok (.iload 7, 2) := by decide +kernel
theorem dX12_valueBy_47 : decode cX12_valueBy 47 = .ok (.invokevirtual 350, 3) := by decide +kernel
theorem dX12_valueBy_50 : decode cX12_valueBy 50 = .ok (.laload, 1) := by decide +kernel
theorem dX12_valueBy_51 : decode cX12_valueBy 51 = .ok (.lmul, 1) := by decide +kernel
theorem dX12_valueBy_52 : decode cX12_valueBy 52 = .ok (.ladd, 1) := by decide +kernel
theorem dX12_valueBy_53 : decode cX12_valueBy 53 = .ok (.lstore 5, 2) := by decide +kernel
theorem dX12_valueBy_55 : decode cX12_valueBy 55 = .ok (.iinc 7 1, 3) := by decide +kernel
theorem dX12_valueBy_58 : decode cX12_valueBy 58 = .ok (.goto (-45), 3) := by decide +kernel
theorem dX12_valueBy_61 : decode cX12_valueBy 61 = .ok (.lload 5, 2) := by decide +kernel
theorem dX12_valueBy_63 : decode cX12_valueBy 63 = .ok (.lreturn, 1) := by decide +kernel
theorem dX12_overAt_0 : decode cX12_overAt 0 = .ok (.aload_n 0, 1) := by decide +kernel
theorem dX12_overAt_1 : decode cX12_overAt 1 = .ok (.iload_n 1, 1) := by decide +kernel
theorem dX12_overAt_2 : decode cX12_overAt 2 = .ok (.iconst 0, 1) := by decide +kernel
theorem dX12_overAt_3 : decode cX12_overAt 3 = .ok (.invokestatic 181, 3) := by decide +kernel
theorem dX12_overAt_6 : decode cX12_overAt 6 = .ok (.iload_n 1, 1) := by decide +kernel
theorem dX12_overAt_7 : decode cX12_overAt 7 = .ok (.iconst 1, 1) := by decide +kernel
theorem dX12_overAt_8 : decode cX12_overAt 8 = .ok (.invokestatic 181, 3) := by decide +kernel
theorem dX12_overAt_11 : decode cX12_overAt 11 = .ok (.invokevirtual 209, 3) := by decide +kernel
theorem dX12_overAt_14 : decode cX12_overAt 14 = .ok (.istore_n 3, 1) := by decide +kernel
theorem dX12_overAt_15 : decode cX12_overAt 15 = .ok (.iload_n 2, 1) := by decide +kernel
theorem dX12_overAt_16 : decode cX12_overAt 16 = .ok (.ifCond .ne 6, 3) := by decide +kernel
theorem dX12_overAt_19 : decode cX12_overAt 19 = .ok (.iload_n 3, 1) := by decide +kernel
theorem dX12_overAt_20 : decode cX12_overAt 20 = .ok (.i2l, 1) := by decide +kernel
theorem dX12_overAt_21 : decode cX12_overAt 21 = .ok (.lreturn, 1) := by decide +kernel
theorem dX12_overAt_22 : decode cX12_overAt 22 = .ok (.iload_n 2, 1) := by decide +kernel
theorem dX12_overAt_23 : decode cX12_overAt 23 = .ok (.iconst 1, 1) := by decide +kernel
theorem dX12_overAt_24 : decode cX12_overAt 24 = .ok (.if_icmp .ne 14, 3) := by decide +kernel
theorem dX12_overAt_27 : decode cX12_overAt 27 = .ok (.iload_n 3, 1) := by decide +kernel
theorem dX12_overAt_28 : decode cX12_overAt 28 = .ok (.aload_n 0, 1) := by decide +kernel
theorem dX12_overAt_29 : decode cX12_overAt 29 = .ok (.getfield 353, 3) := by decide +kernel
theorem dX12_overAt_32 : decode cX12_overAt 32 = .ok (.if_icmp .ne 18, 3) := by decide +kernel
theorem dX12_overAt_35 : decode cX12_overAt 35 = .ok (.goto 11, 3) := by decide +kernel
theorem dX12_overAt_38 : decode cX12_overAt 38 = .ok (.iload_n 3, 1) := by decide +kernel
theorem dX12_overAt_39 : decode cX12_overAt 39 = .ok (.aload_n 0, 1) := by decide +kernel
theorem dX12_overAt_40 : decode cX12_overAt 40 = .ok (.getfield 353, 3) := by decide +kernel
theorem dX12_overAt_43 : decode cX12_overAt 43 = .ok (.if_icmp .lt 7, 3) := by decide +kernel
theorem dX12_overAt_46 : decode cX12_overAt 46 = .ok (.lconst 1, 1) := by decide +kernel
theorem dX12_overAt_47 : decode cX12_overAt 47 = .ok (.goto 4, 3) := by decide +kernel
theorem dX12_overAt_50 : decode cX12_overAt 50 = .ok (.lconst 0, 1) := by decide +kernel
theorem dX12_overAt_51 : decode cX12_overAt 51 = .ok (.lreturn, 1) := by decide +kernel
theorem dX12_solvesAt_0 : decode cX12_solvesAt 0 = .ok (.aload_n 0, 1) := by decide +kernel
theorem dX12_solvesAt_1 : decode cX12_solvesAt 1 = .ok (.iload_n 1, 1) := by decide +kernel
theorem dX12_solvesAt_2 : decode cX12_solvesAt 2 = .ok (.invokevirtual 206, 3) := by decide +kernel
theorem dX12_solvesAt_5 : decode cX12_solvesAt 5 = .ok (.istore_n 3, 1) := by decide +kernel
theorem dX12_solvesAt_6 : decode cX12_solvesAt 6 = .ok (.iload_n 3, 1) := by decide +kernel
theorem dX12_solvesAt_7 : decode cX12_solvesAt 7 = .ok (.iconst 2, 1) := by decide +kernel
theorem dX12_solvesAt_8 : decode cX12_solvesAt 8 = .ok (.if_icmp .ne 23, 3) := by decide +kernel
theorem dX12_solvesAt_11 : decode cX12_solvesAt 11 = .ok (.aload_n 0, 1) := by decide +kernel
theorem dX12_solvesAt_12 : decode cX12_solvesAt 12 = .ok (.getfield 72, 3) := by decide +kernel
theorem dX12_solvesAt_15 : decode cX12_solvesAt 15 = .ok (.iload_n 1, 1) := by decide +kernel
theorem dX12_solvesAt_16 : decode cX12_solvesAt 16 = .ok (.aload_n 0, 1) := by decide +kernel
theorem dX12_solvesAt_17 : decode cX12_solvesAt 17 = .ok (.iload_n 1, 1) := by decide +kernel
theorem dX12_solvesAt_18 : decode cX12_solvesAt 18 = .ok (.iload_n 2, 1) := by decide +kernel
theorem dX12_solvesAt_19 : decode cX12_solvesAt 19 = .ok (.invokevirtual 356, 3) := by decide +kernel
theorem dX12_solvesAt_22 : decode cX12_solvesAt 22 = .ok (.lastore, 1) := by decide +kernel
theorem dX12_solvesAt_23 : decode cX12_solvesAt 23 = .ok (.aload_n 0, 1) := by decide +kernel
theorem dX12_solvesAt_24 : decode cX12_solvesAt 24 = .ok (.getfield 79, 3) := by decide +kernel
theorem dX12_solvesAt_27 : decode cX12_solvesAt 27 = .ok (.iload_n 1, 1) := by decide +kernel
theorem dX12_solvesAt_28 : decode cX12_solvesAt 28 = .ok (.iconst (-1), 1) := by decide +kernel
theorem dX12_solvesAt_29 : decode cX12_solvesAt 29 = .ok (.bastore, 1) := by decide +kernel
theorem dX12_solvesAt_30 : decode cX12_solvesAt 30 = .ok (.return_, 1) := by decide +kernel
theorem dX12_solvesAt_31 : decode cX12_solvesAt 31 = .ok (.iload_n 3, 1) := by decide +kernel
theorem dX12_solvesAt_32 : decode cX12_solvesAt 32 = .ok (.ifCond .ne 10, 3) := by decide +kernel
theorem dX12_solvesAt_35 : decode cX12_solvesAt 35 = .ok (.aload_n 0, 1) := by decide +kernel
theorem dX12_solvesAt_36 : decode cX12_solvesAt 36 = .ok (.getfield 360, 3) := by decide +kernel
theorem dX12_solvesAt_39 : decode cX12_solvesAt 39 = .ok (.goto 7, 3) := by decide +kernel
theorem dX12_solvesAt_42 : decode cX12_solvesAt 42 = .ok (.aload_n 0, 1) := by decide +kernel
theorem dX12_solvesAt_43 : decode cX12_solvesAt 43 = .ok (.getfield 363, 3) := by decide +kernel
theorem dX12_solvesAt_46 : decode cX12_solvesAt 46 = .ok (.istore 4, 2) := by decide +kernel
theorem dX12_solvesAt_48 : decode cX12_solvesAt 48 = .ok (.aload_n 0, 1) := by decide +kernel
theorem dX12_solvesAt_49 : decode cX12_solvesAt 49 = .ok (.getfield 79, 3) := by decide +kernel
theorem dX12_solvesAt_52 : decode cX12_solvesAt 52 = .ok (.iload_n 1, 1) := by decide +kernel
theorem dX12_solvesAt_53 : decode cX12_solvesAt 53 = .ok (.iconst 1, 1) := by decide +kernel
theorem dX12_solvesAt_54 : decode cX12_solvesAt 54 = .ok (.bastore, 1) := by decide +kernel
theorem dX12_solvesAt_55 : decode cX12_solvesAt 55 = .ok (.iload 4, 2) := by decide +kernel
theorem dX12_solvesAt_57 : decode cX12_solvesAt 57 = .ok (.iconst (-1), 1) := by decide +kernel
theorem dX12_solvesAt_58 : decode cX12_solvesAt 58 = .ok (.if_icmp .eq 41, 3) := by decide +kernel
theorem dX12_solvesAt_61 : decode cX12_solvesAt 61 = .ok (.aload_n 0, 1) := by decide +kernel
theorem dX12_solvesAt_62 : decode cX12_solvesAt 62 = .ok (.iload 4, 2) := by decide +kernel
theorem dX12_solvesAt_64 : decode cX12_solvesAt 64 = .ok (.iload_n 1, 1) := by decide +kernel
theorem dX12_solvesAt_65 : decode cX12_solvesAt 65 = .ok (.iload_n 3, 1) := by decide +kernel
theorem dX12_solvesAt_66 : decode cX12_solvesAt 66 = .ok (.invokevirtual 366, 3) := by decide +kernel
theorem dX12_solvesAt_69 : decode cX12_solvesAt 69 = .ok (.istore 5, 2) := by decide +kernel
theorem dX12_solvesAt_71 : decode cX12_solvesAt 71 = .ok (.aload_n 0, 1) := by decide +kernel
theorem dX12_solvesAt_72 : decode cX12_solvesAt 72 = .ok (.getfield 79, 3) := by decide +kernel
theorem dX12_solvesAt_75 : decode cX12_solvesAt 75 = .ok (.iload_n 1, 1) := by decide +kernel
theorem dX12_solvesAt_76 : decode cX12_solvesAt 76 = .ok (.iload 5, 2) := by decide +kernel
theorem dX12_solvesAt_78 : decode cX12_solvesAt 78 = .ok (.i2b, 1) := by decide +kernel
theorem dX12_solvesAt_79 : decode cX12_solvesAt 79 = .ok (.bastore, 1) := by decide +kernel
theorem dX12_solvesAt_80 : decode cX12_solvesAt 80 = .ok (.aload_n 0, 1) := by decide +kernel
theorem dX12_solvesAt_81 : decode cX12_solvesAt 81 = .ok (.getfield 72, 3) := by decide +kernel
theorem dX12_solvesAt_84 : decode cX12_solvesAt 84 = .ok (.iload_n 1, 1) := by decide +kernel
theorem dX12_solvesAt_85 : decode cX12_solvesAt 85 = .ok (.aload_n 0, 1) := by decide +kernel
theorem dX12_solvesAt_86 : decode cX12_solvesAt 86 = .ok (.iload_n 1, 1) := by decide +kernel
theorem dX12_solvesAt_87 : decode cX12_solvesAt 87 = .ok (.iload_n 3, 1) := by decide +kernel
theorem dX12_solvesAt_88 : decode cX12_solvesAt 88 = .ok (.iload 5, 2) := by decide +kernel
theorem dX12_solvesAt_90 : decode cX12_solvesAt 90 = .ok (.aload_n 0, 1) := by decide +kernel
theorem dX12_solvesAt_91 : decode cX12_solvesAt 91 = .ok (.getfield 72, 3) := by decide +kernel
theorem dX12_solvesAt_94 : decode cX12_solvesAt 94 = .ok (.invokevirtual 369, 3) := by decide +kernel
theorem dX12_solvesAt_97 : decode cX12_solvesAt 97 = .ok (.lastore, 1) := by decide +kernel
theorem dX12_solvesAt_98 : decode cX12_solvesAt 98 = .ok (.return_, 1) := by decide +kernel
theorem dX12_solvesAt_99 : decode cX12_solvesAt 99 = .ok (.aload_n 0, 1) := by decide +kernel
theorem dX12_solvesAt_100 : decode cX12_solvesAt 100 = .ok (.getfield 72, 3) := by decide +kernel
theorem dX12_solvesAt_103 : decode cX12_solvesAt 103 = .ok (.iload_n 1, 1) := by decide +kernel
theorem dX12_solvesAt_104 : decode cX12_solvesAt 104 = .ok (.aload_n 0, 1) := by decide +kernel
theorem dX12_solvesAt_105 : decode cX12_solvesAt 105 = .ok (.iload_n 1, 1) := by decide +kernel
theorem dX12_solvesAt_106 : decode cX12_solvesAt 106 = .ok (.iload_n 3, 1) := by decide +kernel
theorem dX12_solvesAt_107 : decode cX12_solvesAt 107 = .ok (.iconst 1, 1) := by decide +kernel
theorem dX12_solvesAt_108 : decode cX12_solvesAt 108 = .ok (.aload_n 0, 1) := by decide +kernel
theorem dX12_solvesAt_109 : decode cX12_solvesAt 109 = .ok (.getfield 72, 3) := by decide +kernel
theorem dX12_solvesAt_112 : decode cX12_solvesAt 112 = .ok (.invokevirtual 369, 3) := by decide +kernel
theorem dX12_solvesAt_115 : decode cX12_solvesAt 115 = .ok (.lastore, 1) := by decide +kernel
theorem dX12_solvesAt_116 : decode cX12_solvesAt 116 = .ok (.aload_n 0, 1) := by decide +kernel
theorem dX12_solvesAt_117 : decode cX12_solvesAt 117 = .ok (.iload_n 1, 1) := by decide +kernel
theorem dX12_solvesAt_118 : decode cX12_solvesAt 118 = .ok (.iload_n 3, 1) := by decide +kernel
theorem dX12_solvesAt_119 : decode cX12_solvesAt 119 = .ok (.invokevirtual 337, 3) := by decide +kernel
theorem dX12_solvesAt_122 : decode cX12_solvesAt 122 = .ok (.ifCond .ne 4, 3) := by decide +kernel
theorem dX12_solvesAt_125 : decode cX12_solvesAt 125 = .ok (.return_, 1) := by decide +kernel
theorem dX12_solvesAt_126 : decode cX12_solvesAt 126 = .ok (.aload_n 0, 1) := by decide +kernel
theorem dX12_solvesAt_127 : decode cX12_solvesAt 127 = .ok (.iload_n 1, 1) := by decide +kernel
theorem dX12_solvesAt_128 : decode cX12_solvesAt 128 = .ok (.iload_n 3, 1) := by decide +kernel
theorem dX12_solvesAt_129 : decode cX12_solvesAt 129 = .ok (.iconst 2, 1) := by decide +kernel
theorem dX12_solvesAt_130 : decode cX12_solvesAt 130 = .ok (.aload_n 0, 1) := by decide +kernel
theorem dX12_solvesAt_131 : decode cX12_solvesAt 131 = .ok (.getfield 72, 3) := by decide +kernel
theorem dX12_solvesAt_134 : decode cX12_solvesAt 134 = .ok (.invokevirtual 369, 3) := by decide +kernel
theorem dX12_solvesAt_137 : decode cX12_solvesAt 137 = .ok (.lstore 5, 2) := by decide +kernel
theorem dX12_solvesAt_139 : decode cX12_solvesAt 139 = .ok (.iload_n 3, 1) := by decide +kernel
theorem dX12_solvesAt_140 : decode cX12_solvesAt 140 = .ok (.ifCond .ne 18, 3) := by decide +kernel
theorem dX12_solvesAt_143 : decode cX12_solvesAt 143 = .ok (.lload 5, 2) := by decide +kernel
theorem dX12_solvesAt_145 : decode cX12_solvesAt 145 = .ok (.aload_n 0, 1) := by decide +kernel
theorem dX12_solvesAt_146 : decode cX12_solvesAt 146 = .ok (.getfield 72, 3) := by decide +kernel
theorem dX12_solvesAt_149 : decode cX12_solvesAt 149 = .ok (.iload_n 1, 1) := by decide +kernel
theorem dX12_solvesAt_150 : decode cX12_solvesAt 150 = .ok (.laload, 1) := by decide +kernel
theorem dX12_solvesAt_151 : decode cX12_solvesAt 151 = .ok (.lcmp, 1) := by decide +kernel
theorem dX12_solvesAt_152 : decode cX12_solvesAt 152 = .ok (.ifCond .gt 19, 3) := by decide +kernel
theorem dX12_solvesAt_155 : decode cX12_solvesAt 155 = .ok (.goto 15, 3) := by decide +kernel
theorem dX12_solvesAt_158 : decode cX12_solvesAt 158 = .ok (.lload 5, 2) := by decide +kernel
theorem dX12_solvesAt_160 : decode cX12_solvesAt 160 = .ok (.aload_n 0, 1) := by decide +kernel
theorem dX12_solvesAt_161 : decode cX12_solvesAt 161 = .ok (.getfield 72, 3) := by decide +kernel
theorem dX12_solvesAt_164 : decode cX12_solvesAt 164 = .ok (.iload_n 1, 1) := by decide +kernel
theorem dX12_solvesAt_165 : decode cX12_solvesAt 165 = .ok (.laload, 1) := by decide +kernel
theorem dX12_solvesAt_166 : decode cX12_solvesAt 166 = .ok (.lcmp, 1) := by decide +kernel
theorem dX12_solvesAt_167 : decode cX12_solvesAt 167 = .ok (.ifCond .lt 4, 3) := by decide +kernel
theorem dX12_solvesAt_170 : decode cX12_solvesAt 170 = .ok (.return_, 1) := by decide +kernel
theorem dX12_solvesAt_171 : decode cX12_solvesAt 171 = .ok (.aload_n 0, 1) := by decide +kernel
theorem dX12_solvesAt_172 : decode cX12_solvesAt 172 = .ok (.getfield 72, 3) := by decide +kernel
theorem dX12_solvesAt_175 : decode cX12_solvesAt 175 = .ok (.iload_n 1, 1) := by decide +kernel
theorem dX12_solvesAt_176 : decode cX12_solvesAt 176 = .ok (.lload 5, 2) := by decide +kernel
theorem dX12_solvesAt_178 : decode cX12_solvesAt 178 = .ok (.lastore, 1) := by decide +kernel
theorem dX12_solvesAt_179 : decode cX12_solvesAt 179 = .ok (.aload_n 0, 1) := by decide +kernel
theorem dX12_solvesAt_180 : decode cX12_solvesAt 180 = .ok (.getfield 79, 3) := by decide +kernel
theorem dX12_solvesAt_183 : decode cX12_solvesAt 183 = .ok (.iload_n 1, 1) := by decide +kernel
theorem dX12_solvesAt_184 : decode cX12_solvesAt 184 = .ok (.iconst 2, 1) := by decide +kernel
theorem dX12_solvesAt_185 : decode cX12_solvesAt 185 = .ok (.bastore, 1) := by decide +kernel
theorem dX12_solvesAt_186 : decode cX12_solvesAt 186 = .ok (.return_, 1) := by decide +kernel
theorem dX12_solves_0 : decode cX12_solves 0 = .ok (.aload_n 0, 1) := by decide +kernel
theorem dX12_solves_1 : decode cX12_solves 1 = .ok (.getfield 312, 3) := by decide +kernel
theorem dX12_solves_4 : decode cX12_solves 4 = .ok (.ifCond .eq 54, 3) := by decide +kernel
theorem dX12_solves_7 : decode cX12_solves 7 = .ok (.aload_n 0, 1) := by decide +kernel
theorem dX12_solves_8 : decode cX12_solves 8 = .ok (.getfield 373, 3) := by decide +kernel
theorem dX12_solves_11 : decode cX12_solves 11 = .ok (.iload_n 1, 1) := by decide +kernel
theorem dX12_solves_12 : decode cX12_solves 12 = .ok (.if_icmp .ne 46, 3) := by decide +kernel
theorem dX12_solves_15 : decode cX12_solves 15 = .ok (.aload_n 0, 1) := by decide +kernel
theorem dX12_solves_16 : decode cX12_solves 16 = .ok (.getfield 360, 3) := by decide +kernel
theorem dX12_solves_19 : decode cX12_solves 19 = .ok (.iload_n 2, 1) := by decide +kernel
theorem dX12_solves_20 : decode cX12_solves 20 = .ok (.if_icmp .ne 38, 3) := by decide +kernel
theorem dX12_solves_23 : decode cX12_solves 23 = .ok (.aload_n 0, 1) := by decide +kernel
theorem dX12_solves_24 : decode cX12_solves 24 = .ok (.getfield 363, 3) := by decide +kernel
theorem dX12_solves_27 : decode cX12_solves 27 = .ok (.iload_n 3, 1) := by decide +kernel
theorem dX12_solves_28 : decode cX12_solves 28 = .ok (.if_icmp .ne 30, 3) := by decide +kernel
theorem dX12_solves_31 : decode cX12_solves 31 = .ok (.aload_n 0, 1) := by decide +kernel
theorem dX12_solves_32 : decode cX12_solves 32 = .ok (.getfield 376, 3) := by decide +kernel
theorem dX12_solves_35 : decode cX12_solves 35 = .ok (.aload_n 0, 1) := by decide +kernel
theorem dX12_solves_36 : decode cX12_solves 36 = .ok (.getfield 143, 3) := by decide +kernel
theorem dX12_solves_39 : decode cX12_solves 39 = .ok (.if_icmp .ne 19, 3) := by decide +kernel
theorem dX12_solves_42 : decode cX12_solves 42 = .ok (.iload_n 1, 1) := by decide +kernel
theorem dX12_solves_43 : decode cX12_solves 43 = .ok (.ifCond .eq 14, 3) := by decide +kernel
theorem dX12_solves_46 : decode cX12_solves 46 = .ok (.aload_n 0, 1) := by decide +kernel
theorem dX12_solves_47 : decode cX12_solves 47 = .ok (.getfield 379, 3) := by decide +kernel
theorem dX12_solves_50 : decode cX12_solves 50 = .ok (.aload_n 0, 1) := by decide +kernel
theorem dX12_solves_51 : decode cX12_solves 51 = .ok (.getfield 353, 3) := by decide +kernel
theorem dX12_solves_54 : decode cX12_solves 54 = .ok (.if_icmp .ne 4, 3) := by decide +kernel
theorem dX12_solves_57 : decode cX12_solves 57 = .ok (.return_, 1) := by decide +kernel
theorem dX12_solves_58 : decode cX12_solves 58 = .ok (.aload_n 0, 1) := by decide +kernel
theorem dX12_solves_59 : decode cX12_solves 59 = .ok (.iconst 1, 1) := by decide +kernel
theorem dX12_solves_60 : decode cX12_solves 60 = .ok (.putfield 312, 3) := by decide +kernel
theorem dX12_solves_63 : decode cX12_solves 63 = .ok (.aload_n 0, 1) := by decide +kernel
theorem dX12_solves_64 : decode cX12_solves 64 = .ok (.iload_n 1, 1) := by decide +kernel
theorem dX12_solves_65 : decode cX12_solves 65 = .ok (.putfield 373, 3) := by decide +kernel
theorem dX12_solves_68 : decode cX12_solves 68 = .ok (.aload_n 0, 1) := by decide +kernel
theorem dX12_solves_69 : decode cX12_solves 69 = .ok (.aload_n 0, 1) := by decide +kernel
theorem dX12_solves_70 : decode cX12_solves 70 = .ok (.getfield 143, 3) := by decide +kernel
theorem dX12_solves_73 : decode cX12_solves 73 = .ok (.putfield 376, 3) := by decide +kernel
theorem dX12_solves_76 : decode cX12_solves 76 = .ok (.aload_n 0, 1) := by decide +kernel
theorem dX12_solves_77 : decode cX12_solves 77 = .ok (.aload_n 0, 1) := by decide +kernel
theorem dX12_solves_78 : decode cX12_solves 78 = .ok (.getfield 353, 3) := by decide +kernel
theorem dX12_solves_81 : decode cX12_solves 81 = .ok (.putfield 379, 3) := by decide +kernel
theorem dX12_solves_84 : decode cX12_solves 84 = .ok (.aload_n 0, 1) := by decide +kernel
theorem dX12_solves_85 : decode cX12_solves 85 = .ok (.iload_n 2, 1) := by decide +kernel
theorem dX12_solves_86 : decode cX12_solves 86 = .ok (.putfield 360, 3) := by decide +kernel
theorem dX12_solves_89 : decode cX12_solves 89 = .ok (.aload_n 0, 1) := by decide +kernel
theorem dX12_solves_90 : decode cX12_solves 90 = .ok (.iload_n 3, 1) := by decide +kernel
theorem dX12_solves_91 : decode cX12_solves 91 = .ok (.putfield 363, 3) := by decide +kernel
theorem dX12_solves_94 : decode cX12_solves 94 = .ok (.iconst 0, 1) := by decide +kernel
theorem dX12_solves_95 : decode cX12_solves 95 = .ok (.istore 4, 2) := by decide +kernel
theorem dX12_solves_97 : decode cX12_solves 97 = .ok (.iload 4, 2) := by decide +kernel
theorem dX12_solves_99 : decode cX12_solves 99 = .ok (.bipush 6, 2) := by decide +kernel
theorem dX12_solves_101 : decode cX12_solves 101 = .ok (.if_icmp .gt 44, 3) := by decide +kernel
theorem dX12_solves_104 : decode cX12_solves 104 = .ok (.iconst 0, 1) := by decide +kernel
theorem dX12_solves_105 : decode cX12_solves 105 = .ok (.istore 5, 2) := by decide +kernel
theorem dX12_solves_107 : decode cX12_solves 107 = .ok (.iload 5, 2) := by decide +kernel
theorem dX12_solves_109 : decode cX12_solves 109 = .ok (.sipush 6272, 3) := by decide +kernel
theorem dX12_solves_112 : decode cX12_solves 112 = .ok (.if_icmp .ge 27, 3) := by decide +kernel
theorem dX12_solves_115 : decode cX12_solves 115 = .ok (.aload_n 0, 1) := by decide +kernel
theorem dX12_solves_116 : decode cX12_solves 116 = .ok (.iload 5, 2) := by decide +kernel
theorem dX12_solves_118 : decode cX12_solves 118 = .ok (.invokevirtual 187, 3) := by decide +kernel
theorem dX12_solves_121 : decode cX12_solves 121 = .ok (.iload 4, 2) := by decide +kernel
theorem dX12_solves_123 : decode cX12_solves 123 = .ok (.if_icmp .ne 10, 3) := by decide +kernel
theorem dX12_solves_126 : decode cX12_solves 126 = .ok (.aload_n 0, 1) := by decide +kernel
theorem dX12_solves_127 : decode cX12_solves 127 = .ok (.iload 5, 2) := by decide +kernel
theorem dX12_solves_129 : decode cX12_solves 129 = .ok (.iload_n 1, 1) := by decide +kernel
theorem dX12_solves_130 : decode cX12_solves 130 = .ok (.invokevirtual 382, 3) := by decide +kernel
theorem dX12_solves_133 : decode cX12_solves 133 = .ok (.iinc 5 1, 3) := by decide +kernel
theorem dX12_solves_136 : decode cX12_solves 136 = .ok (.goto (-29), 3) := by decide +kernel
theorem dX12_solves_139 : decode cX12_solves 139 = .ok (.iinc 4 1, 3) := by decide +kernel
theorem dX12_solves_142 : decode cX12_solves 142 = .ok (.goto (-45), 3) := by decide +kernel
theorem dX12_solves_145 : decode cX12_solves 145 = .ok (.return_, 1) := by decide +kernel
theorem dX12_solvesBest_0 : decode cX12_solvesBest 0 = .ok (.aload_n 0, 1) := by decide +kernel
theorem dX12_solvesBest_1 : decode cX12_solvesBest 1 = .ok (.aload_n 0, 1) := by decide +kernel
theorem dX12_solvesBest_2 : decode cX12_solvesBest 2 = .ok (.getfield 139, 3) := by decide +kernel
theorem dX12_solvesBest_5 : decode cX12_solvesBest 5 = .ok (.putfield 143, 3) := by decide +kernel
theorem dX12_solvesBest_8 : decode cX12_solvesBest 8 = .ok (.aload_n 0, 1) := by decide +kernel
theorem dX12_solvesBest_9 : decode cX12_solvesBest 9 = .ok (.iconst 0, 1) := by decide +kernel
theorem dX12_solvesBest_10 : decode cX12_solvesBest 10 = .ok (.iconst (-1), 1) := by decide +kernel
theorem dX12_solvesBest_11 : decode cX12_solvesBest 11 = .ok (.iconst (-1), 1) := by decide +kernel
theorem dX12_solvesBest_12 : decode cX12_solvesBest 12 = .ok (.invokevirtual 385, 3) := by decide +kernel
theorem dX12_solvesBest_15 : decode cX12_solvesBest 15 = .ok (.return_, 1) := by decide +kernel
theorem dX12_best_0 : decode cX12_best 0 = .ok (.aload_n 0, 1) := by decide +kernel
theorem dX12_best_1 : decode cX12_best 1 = .ok (.iload_n 1, 1) := by decide +kernel
theorem dX12_best_2 : decode cX12_best 2 = .ok (.iload_n 2, 1) := by decide +kernel
theorem dX12_best_3 : decode cX12_best 3 = .ok (.iload_n 3, 1) := by decide +kernel
theorem dX12_best_4 : decode cX12_best 4 = .ok (.invokevirtual 203, 3) := by decide +kernel
theorem dX12_best_7 : decode cX12_best 7 = .ok (.istore 5, 2) := by decide +kernel
theorem dX12_best_9 : decode cX12_best 9 = .ok (.iload 5, 2) := by decide +kernel
theorem dX12_best_11 : decode cX12_best 11 = .ok (.iconst (-1), 1) := by decide +kernel
theorem dX12_best_12 : decode cX12_best 12 = .ok (.if_icmp .eq 13, 3) := by decide +kernel
theorem dX12_best_15 : decode cX12_best 15 = .ok (.iload 4, 2) := by decide +kernel
theorem dX12_best_17 : decode cX12_best 17 = .ok (.iconst 0, 1) := by decide +kernel
theorem dX12_best_18 : decode cX12_best 18 = .ok (.iconst 1, 1) := by decide +kernel
theorem dX12_best_19 : decode cX12_best 19 = .ok (.invokestatic 173, 3) := by decide +kernel
theorem dX12_best_22 : decode cX12_best 22 = .ok (.ifCond .ne 7, 3) := by decide +kernel
theorem dX12_best_25 : decode cX12_best 25 = .ok (.ldc2_w 388, 3) := by decide +kernel
theorem dX12_best_28 : decode cX12_best 28 = .ok (.lreturn, 1) := by decide +kernel
theorem dX12_best_29 : decode cX12_best 29 = .ok (.aload_n 0, 1) := by decide +kernel
theorem dX12_best_30 : decode cX12_best 30 = .ok (.invokevirtual 390, 3) := by decide +kernel
theorem dX12_best_33 : decode cX12_best 33 = .ok (.iload 4, 2) := by decide +kernel
theorem dX12_best_35 : decode cX12_best 35 = .ok (.ifCond .ne 13, 3) := by decide +kernel
theorem dX12_best_38 : decode cX12_best 38 = .ok (.aload_n 0, 1) := by decide +kernel
theorem dX12_best_39 : decode cX12_best 39 = .ok (.getfield 72, 3) := by decide +kernel
theorem dX12_best_42 : decode cX12_best 42 = .ok (.iload 5, 2) := by decide +kernel
theorem dX12_best_44 : decode cX12_best 44 = .ok (.laload, 1) := by decide +kernel
theorem dX12_best_45 : decode cX12_best 45 = .ok (.goto 11, 3) := by decide +kernel
theorem dX12_best_48 : decode cX12_best 48 = .ok (.aload_n 0, 1) := by decide +kernel
theorem dX12_best_49 : decode cX12_best 49 = .ok (.getfield 79, 3) := by decide +kernel
theorem dX12_best_52 : decode cX12_best 52 = .ok (.iload 5, 2) := by decide +kernel
theorem dX12_best_54 : decode cX12_best 54 = .ok (.baload, 1) := by decide +kernel
theorem dX12_best_55 : decode cX12_best 55 = .ok (.i2l, 1) := by decide +kernel
theorem dX12_best_56 : decode cX12_best 56 = .ok (.lreturn, 1) := by decide +kernel
theorem dX12_laysLikely_0 : decode cX12_laysLikely 0 = .ok (.aload_n 0, 1) := by decide +kernel
theorem dX12_laysLikely_1 : decode cX12_laysLikely 1 = .ok (.iload_n 1, 1) := by decide +kernel
theorem dX12_laysLikely_2 : decode cX12_laysLikely 2 = .ok (.putfield 353, 3) := by decide +kernel
theorem dX12_laysLikely_5 : decode cX12_laysLikely 5 = .ok (.iconst 0, 1) := by decide +kernel
theorem dX12_laysLikely_6 : decode cX12_laysLikely 6 = .ok (.istore_n 2, 1) := by decide +kernel
theorem dX12_laysLikely_7 : decode cX12_laysLikely 7 = .ok (.iload_n 2, 1) := by decide +kernel
theorem dX12_laysLikely_8 : decode cX12_laysLikely 8 = .ok (.bipush 6, 2) := by decide +kernel
theorem dX12_laysLikely_10 : decode cX12_laysLikely 10 = .ok (.if_icmp .gt 75, 3) := by decide +kernel
theorem dX12_laysLikely_13 : decode cX12_laysLikely 13 = .ok (.iconst 0, 1) := by decide +kernel
theorem dX12_laysLikely_14 : decode cX12_laysLikely 14 = .ok (.istore_n 3, 1) := by decide +kernel
theorem dX12_laysLikely_15 : decode cX12_laysLikely 15 = .ok (.iload_n 3, 1) := by decide +kernel
theorem dX12_laysLikely_16 : decode cX12_laysLikely 16 = .ok (.sipush 6272, 3) := by decide +kernel
theorem dX12_laysLikely_19 : decode cX12_laysLikely 19 = .ok (.if_icmp .ge 60, 3) := by decide +kernel
theorem dX12_laysLikely_22 : decode cX12_laysLikely 22 = .ok (.aload_n 0, 1) := by decide +kernel
theorem dX12_laysLikely_23 : decode cX12_laysLikely 23 = .ok (.iload_n 3, 1) := by decide +kernel
theorem dX12_laysLikely_24 : decode cX12_laysLikely 24 = .ok (.invokevirtual 187, 3) := by decide +kernel
theorem dX12_laysLikely_27 : decode cX12_laysLikely 27 = .ok (.iload_n 2, 1) := by decide +kernel
theorem dX12_laysLikely_28 : decode cX12_laysLikely 28 = .ok (.if_icmp .eq 6, 3) := by decide +kernel
theorem dX12_laysLikely_31 : decode cX12_laysLikely 31 = .ok (.goto 42, 3) := by decide +kernel
theorem dX12_laysLikely_34 : decode cX12_laysLikely 34 = .ok (.aload_n 0, 1) := by decide +kernel
theorem dX12_laysLikely_35 : decode cX12_laysLikely 35 = .ok (.getfield 76, 3) := by decide +kernel
theorem dX12_laysLikely_38 : decode cX12_laysLikely 38 = .ok (.iload_n 3, 1) := by decide +kernel
theorem dX12_laysLikely_39 : decode cX12_laysLikely 39 = .ok (.iload_n 2, 1) := by decide +kernel
theorem dX12_laysLikely_40 : decode cX12_laysLikely 40 = .ok (.ifCond .ne 12, 3) := by decide +kernel
theorem dX12_laysLikely_43 : decode cX12_laysLikely 43 = .ok (.aload_n 0, 1) := by decide +kernel
theorem dX12_laysLikely_44 : decode cX12_laysLikely 44 = .ok (.iload_n 3, 1) := by decide +kernel
theorem dX12_laysLikely_45 : decode cX12_laysLikely 45 = .ok (.iconst 1, 1) := by decide +kernel
theorem dX12_laysLikely_46 : decode cX12_laysLikely 46 = .ok (.invokevirtual 356, 3) := by decide +kernel
theorem dX12_laysLikely_49 : decode cX12_laysLikely 49 = .ok (.goto 23, 3) := by decide +kernel
theorem dX12_laysLikely_52 : decode cX12_laysLikely 52 = .ok (.aload_n 0, 1) := by decide +kernel
theorem dX12_laysLikely_53 : decode cX12_laysLikely 53 = .ok (.iload_n 3, 1) := by decide +kernel
theorem dX12_laysLikely_54 : decode cX12_laysLikely 54 = .ok (.aload_n 0, 1) := by decide +kernel
theorem dX12_laysLikely_55 : decode cX12_laysLikely 55 = .ok (.iload_n 3, 1) := by decide +kernel
theorem dX12_laysLikely_56 : decode cX12_laysLikely 56 = .ok (.invokevirtual 206, 3) := by decide +kernel
theorem dX12_laysLikely_59 : decode cX12_laysLikely 59 = .ok (.aload_n 0, 1) := by decide +kernel
theorem dX12_laysLikely_60 : decode cX12_laysLikely 60 = .ok (.getfield 79, 3) := by decide +kernel
theorem dX12_laysLikely_63 : decode cX12_laysLikely 63 = .ok (.iload_n 3, 1) := by decide +kernel
theorem dX12_laysLikely_64 : decode cX12_laysLikely 64 = .ok (.baload, 1) := by decide +kernel
theorem dX12_laysLikely_65 : decode cX12_laysLikely 65 = .ok (.aload_n 0, 1) := by decide +kernel
theorem dX12_laysLikely_66 : decode cX12_laysLikely 66 = .ok (.getfield 76, 3) := by decide +kernel
theorem dX12_laysLikely_69 : decode cX12_laysLikely 69 = .ok (.invokevirtual 369, 3) := by decide +kernel
theorem dX12_laysLikely_72 : decode cX12_laysLikely 72 = .ok (.lastore, 1) := by decide +kernel
theorem dX12_laysLikely_73 : decode cX12_laysLikely 73 = .ok (.iinc 3 1, 3) := by decide +kernel
theorem dX12_laysLikely_76 : decode cX12_laysLikely 76 = .ok (.goto (-61), 3) := by decide +kernel
theorem dX12_laysLikely_79 : decode cX12_laysLikely 79 = .ok (.iinc 2 1, 3) := by decide +kernel
theorem dX12_laysLikely_82 : decode cX12_laysLikely 82 = .ok (.goto (-75), 3) := by decide +kernel
theorem dX12_laysLikely_85 : decode cX12_laysLikely 85 = .ok (.return_, 1) := by decide +kernel
theorem dX12_likely_0 : decode cX12_likely 0 = .ok (.aload_n 0, 1) := by decide +kernel
theorem dX12_likely_1 : decode cX12_likely 1 = .ok (.iload_n 1, 1) := by decide +kernel
theorem dX12_likely_2 : decode cX12_likely 2 = .ok (.iload_n 2, 1) := by decide +kernel
theorem dX12_likely_3 : decode cX12_likely 3 = .ok (.iload_n 3, 1) := by decide +kernel
theorem dX12_likely_4 : decode cX12_likely 4 = .ok (.invokevirtual 203, 3) := by decide +kernel
theorem dX12_likely_7 : decode cX12_likely 7 = .ok (.istore 5, 2) := by decide +kernel
theorem dX12_likely_9 : decode cX12_likely 9 = .ok (.iload 5, 2) := by decide +kernel
theorem dX12_likely_11 : decode cX12_likely 11 = .ok (.iconst (-1), 1) := by decide +kernel
theorem dX12_likely_12 : decode cX12_likely 12 = .ok (.if_icmp .eq 14, 3) := by decide +kernel
theorem dX12_likely_15 : decode cX12_likely 15 = .ok (.iload 4, 2) := by decide +kernel
theorem dX12_likely_17 : decode cX12_likely 17 = .ok (.bipush (-3), 2) := by decide +kernel
theorem dX12_likely_19 : decode cX12_likely 19 = .ok (.iconst 3, 1) := by decide +kernel
theorem dX12_likely_20 : decode cX12_likely 20 = .ok (.invokestatic 173, 3) := by decide +kernel
theorem dX12_likely_23 : decode cX12_likely 23 = .ok (.ifCond .ne 7, 3) := by decide +kernel
theorem dX12_likely_26 : decode cX12_likely 26 = .ok (.ldc2_w 393, 3) := by decide +kernel
theorem dX12_likely_29 : decode cX12_likely 29 = .ok (.lreturn, 1) := by decide +kernel
theorem dX12_likely_30 : decode cX12_likely 30 = .ok (.aload_n 0, 1) := by decide +kernel
theorem dX12_likely_31 : decode cX12_likely 31 = .ok (.invokevirtual 390, 3) := by decide +kernel
theorem dX12_likely_34 : decode cX12_likely 34 = .ok (.aload_n 0, 1) := by decide +kernel
theorem dX12_likely_35 : decode cX12_likely 35 = .ok (.iload 4, 2) := by decide +kernel
theorem dX12_likely_37 : decode cX12_likely 37 = .ok (.invokevirtual 395, 3) := by decide +kernel
theorem dX12_likely_40 : decode cX12_likely 40 = .ok (.aload_n 0, 1) := by decide +kernel
theorem dX12_likely_41 : decode cX12_likely 41 = .ok (.getfield 76, 3) := by decide +kernel
theorem dX12_likely_44 : decode cX12_likely 44 = .ok (.iload 5, 2) := by decide +kernel
theorem dX12_likely_46 : decode cX12_likely 46 = .ok (.laload, 1) := by decide +kernel
theorem dX12_likely_47 : decode cX12_likely 47 = .ok (.lreturn, 1) := by decide +kernel
theorem dX12_goFor_0 : decode cX12_goFor 0 = .ok (.aload_n 0, 1) := by decide +kernel
theorem dX12_goFor_1 : decode cX12_goFor 1 = .ok (.iload_n 1, 1) := by decide +kernel
theorem dX12_goFor_2 : decode cX12_goFor 2 = .ok (.iload_n 2, 1) := by decide +kernel
theorem dX12_goFor_3 : decode cX12_goFor 3 = .ok (.iload_n 3, 1) := by decide +kernel
theorem dX12_goFor_4 : decode cX12_goFor 4 = .ok (.invokevirtual 203, 3) := by decide +kernel
theorem dX12_goFor_7 : decode cX12_goFor 7 = .ok (.istore 6, 2) := by decide +kernel
theorem dX12_goFor_9 : decode cX12_goFor 9 = .ok (.iload 6, 2) := by decide +kernel
theorem dX12_goFor_11 : decode cX12_goFor 11 = .ok (.iconst (-1), 1) := by decide +kernel
theorem dX12_goFor_12 : decode cX12_goFor 12 = .ok (.if_icmp .eq 24, 3) := by decide +kernel
theorem dX12_goFor_15 : decode cX12_goFor 15 = .ok (.iload 4, 2) := by decide +kernel
theorem dX12_goFor_17 : decode cX12_goFor 17 = .ok (.bipush (-3), 2) := by decide +kernel
theorem dX12_goFor_19 : decode cX12_goFor 19 = .ok (.iconst 3, 1) := by decide +kernel
theorem dX12_goFor_20 : decode cX12_goFor 20 = .ok (.invokestatic 173, 3) := by decide +kernel
theorem dX12_goFor_23 : decode cX12_goFor 23 = .ok (.ifCond .eq 13, 3) := by decide +kernel
theorem dX12_goFor_26 : decode cX12_goFor 26 = .ok (.iload 5, 2) := by decide +kernel
theorem dX12_goFor_28 : decode cX12_goFor 28 = .ok (.iconst 0, 1) := by decide +kernel
theorem dX12_goFor_29 : decode cX12_goFor 29 = .ok (.iconst 1, 1) := by decide +kernel
theorem dX12_goFor_30 : decode cX12_goFor 30 = .ok (.invokestatic 173, 3) := by decide +kernel
theorem dX12_goFor_33 : decode cX12_goFor 33 = .ok (.ifCond .ne 7, 3) := by decide +kernel
theorem dX12_goFor_36 : decode cX12_goFor 36 = .ok (.ldc2_w 388, 3) := by decide +kernel
theorem dX12_goFor_39 : decode cX12_goFor 39 = .ok (.lreturn, 1) := by decide +kernel
theorem dX12_goFor_40 : decode cX12_goFor 40 = .ok (.aload_n 0, 1) := by decide +kernel
theorem dX12_goFor_41 : decode cX12_goFor 41 = .ok (.aload_n 0, 1) := by decide +kernel
theorem dX12_goFor_42 : decode cX12_goFor 42 = .ok (.getfield 139, 3) := by decide +kernel
theorem dX12_goFor_45 : decode cX12_goFor 45 = .ok (.putfield 143, 3) := by decide +kernel
theorem dX12_goFor_48 : decode cX12_goFor 48 = .ok (.aload_n 0, 1) := by decide +kernel
theorem dX12_goFor_49 : decode cX12_goFor 49 = .ok (.iload 4, 2) := by decide +kernel
theorem dX12_goFor_51 : decode cX12_goFor 51 = .ok (.putfield 353, 3) := by decide +kernel
theorem dX12_goFor_54 : decode cX12_goFor 54 = .ok (.aload_n 0, 1) := by decide +kernel
theorem dX12_goFor_55 : decode cX12_goFor 55 = .ok (.iconst 2, 1) := by decide +kernel
theorem dX12_goFor_56 : decode cX12_goFor 56 = .ok (.iconst (-1), 1) := by decide +kernel
theorem dX12_goFor_57 : decode cX12_goFor 57 = .ok (.iconst (-1), 1) := by decide +kernel
theorem dX12_goFor_58 : decode cX12_goFor 58 = .ok (.invokevirtual 385, 3) := by decide +kernel
theorem dX12_goFor_61 : decode cX12_goFor 61 = .ok (.iload 5, 2) := by decide +kernel
theorem dX12_goFor_63 : decode cX12_goFor 63 = .ok (.ifCond .ne 13, 3) := by decide +kernel
theorem dX12_goFor_66 : decode cX12_goFor 66 = .ok (.aload_n 0, 1) := by decide +kernel
theorem dX12_goFor_67 : decode cX12_goFor 67 = .ok (.getfield 72, 3) := by decide +kernel
theorem dX12_goFor_70 : decode cX12_goFor 70 = .ok (.iload 6, 2) := by decide +kernel
theorem dX12_goFor_72 : decode cX12_goFor 72 = .ok (.laload, 1) := by decide +kernel
theorem dX12_goFor_73 : decode cX12_goFor 73 = .ok (.goto 11, 3) := by decide +kernel
theorem dX12_goFor_76 : decode cX12_goFor 76 = .ok (.aload_n 0, 1) := by decide +kernel
theorem dX12_goFor_77 : decode cX12_goFor 77 = .ok (.getfield 79, 3) := by decide +kernel
theorem dX12_goFor_80 : decode cX12_goFor 80 = .ok (.iload 6, 2) := by decide +kernel
theorem dX12_goFor_82 : decode cX12_goFor 82 = .ok (.baload, 1) := by decide +kernel
theorem dX12_goFor_83 : decode cX12_goFor 83 = .ok (.i2l, 1) := by decide +kernel
theorem dX12_goFor_84 : decode cX12_goFor 84 = .ok (.lreturn, 1) := by decide +kernel
theorem dX12_begin_0 : decode cX12_begin 0 = .ok (.aload_n 0, 1) := by decide +kernel
theorem dX12_begin_1 : decode cX12_begin 1 = .ok (.sipush 30000, 3) := by decide +kernel
theorem dX12_begin_4 : decode cX12_begin 4 = .ok (.sipush 30000, 3) := by decide +kernel
theorem dX12_begin_7 : decode cX12_begin 7 = .ok (.iconst 1, 1) := by decide +kernel
theorem dX12_begin_8 : decode cX12_begin 8 = .ok (.iload_n 1, 1) := by decide +kernel
theorem dX12_begin_9 : decode cX12_begin 9 = .ok (.isub, 1) := by decide +kernel
theorem dX12_begin_10 : decode cX12_begin 10 = .ok (.invokevirtual 203, 3) := by decide +kernel
theorem dX12_begin_13 : decode cX12_begin 13 = .ok (.ireturn, 1) := by decide +kernel
theorem dX12_toThrow_0 : decode cX12_toThrow 0 = .ok (.iload_n 1, 1) := by decide +kernel
theorem dX12_toThrow_1 : decode cX12_toThrow 1 = .ok (.invokestatic 196, 3) := by decide +kernel
theorem dX12_toThrow_4 : decode cX12_toThrow 4 = .ok (.ifCond .eq 12, 3) := by decide +kernel
theorem dX12_toThrow_7 : decode cX12_toThrow 7 = .ok (.iload_n 2, 1) := by decide +kernel
theorem dX12_toThrow_8 : decode cX12_toThrow 8 = .ok (.iconst 0, 1) := by decide +kernel
theorem dX12_toThrow_9 : decode cX12_toThrow 9 = .ok (.iconst 1, 1) := by decide +kernel
theorem dX12_toThrow_10 : decode cX12_toThrow 10 = .ok (.invokestatic 173, 3) := by decide +kernel
theorem dX12_toThrow_13 : decode cX12_toThrow 13 = .ok (.ifCond .ne 7, 3) := by decide +kernel
theorem dX12_toThrow_16 : decode cX12_toThrow 16 = .ok (.ldc2_w 388, 3) := by decide +kernel
theorem dX12_toThrow_19 : decode cX12_toThrow 19 = .ok (.lreturn, 1) := by decide +kernel
theorem dX12_toThrow_20 : decode cX12_toThrow 20 = .ok (.iconst (-1), 1) := by decide +kernel
theorem dX12_toThrow_21 : decode cX12_toThrow 21 = .ok (.istore_n 3, 1) := by decide +kernel
theorem dX12_toThrow_22 : decode cX12_toThrow 22 = .ok (.lconst 0, 1) := by decide +kernel
theorem dX12_toThrow_23 : decode cX12_toThrow 23 = .ok (.lstore 4, 2) := by decide +kernel
theorem dX12_toThrow_25 : decode cX12_toThrow 25 = .ok (.bipush 6, 2) := by decide +kernel
theorem dX12_toThrow_27 : decode cX12_toThrow 27 = .ok (.istore 6, 2) := by decide +kernel
theorem dX12_toThrow_29 : decode cX12_toThrow 29 = .ok (.iload 6, 2) := by decide +kernel
theorem dX12_toThrow_31 : decode cX12_toThrow 31 = .ok (.bipush 10, 2) := by decide +kernel
theorem dX12_toThrow_33 : decode cX12_toThrow 33 = .ok (.if_icmp .gt 72, 3) := by decide +kernel
theorem dX12_toThrow_36 : decode cX12_toThrow 36 = .ok (.aload_n 0, 1) := by decide +kernel
theorem dX12_toThrow_37 : decode cX12_toThrow 37 = .ok (.iload 6, 2) := by decide +kernel
theorem dX12_toThrow_39 : decode cX12_toThrow 39 = .ok (.putfield 143, 3) := by decide +kernel
theorem dX12_toThrow_42 : decode cX12_toThrow 42 = .ok (.aload_n 0, 1) := by decide +kernel
theorem dX12_toThrow_43 : decode cX12_toThrow 43 = .ok (.iconst 0, 1) := by decide +kernel
theorem dX12_toThrow_44 : decode cX12_toThrow 44 = .ok (.iconst (-1), 1) := by decide +kernel
theorem dX12_toThrow_45 : decode cX12_toThrow 45 = .ok (.iconst (-1), 1) := by decide +kernel
theorem dX12_toThrow_46 : decode cX12_toThrow 46 = .ok (.invokevirtual 385, 3) := by decide +kernel
theorem dX12_toThrow_49 : decode cX12_toThrow 49 = .ok (.aload_n 0, 1) := by decide +kernel
theorem dX12_toThrow_50 : decode cX12_toThrow 50 = .ok (.getfield 72, 3) := by decide +kernel
theorem dX12_toThrow_53 : decode cX12_toThrow 53 = .ok (.aload_n 0, 1) := by decide +kernel
theorem dX12_toThrow_54 : decode cX12_toThrow 54 = .ok (.iload_n 1, 1) := by decide +kernel
theorem dX12_toThrow_55 : decode cX12_toThrow 55 = .ok (.invokevirtual 398, 3) := by decide +kernel
theorem dX12_toThrow_58 : decode cX12_toThrow 58 = .ok (.laload, 1) := by decide +kernel
theorem dX12_toThrow_59 : decode cX12_toThrow 59 = .ok (.lstore 7, 2) := by decide +kernel
theorem dX12_toThrow_61 : decode cX12_toThrow 61 = .ok (.iload_n 3, 1) := by decide +kernel
theorem dX12_toThrow_62 : decode cX12_toThrow 62 = .ok (.iconst (-1), 1) := by decide +kernel
theorem dX12_toThrow_63 : decode cX12_toThrow 63 = .ok (.if_icmp .eq 29, 3) := by decide +kernel
theorem dX12_toThrow_66 : decode cX12_toThrow 66 = .ok (.iload_n 1, 1) := by decide +kernel
theorem dX12_toThrow_67 : decode cX12_toThrow 67 = .ok (.ifCond .ne 14, 3) := by decide +kernel
theorem dX12_toThrow_70 : decode cX12_toThrow 70 = .ok (.lload 7, 2) := by decide +kernel
theorem dX12_toThrow_72 : decode cX12_toThrow 72 = .ok (.lload 4, 2) := by decide +kernel
theorem dX12_toThrow_74 : decode cX12_toThrow 74 = .ok (.lcmp, 1) := by decide +kernel
theorem dX12_toThrow_75 : decode cX12_toThrow 75 = .ok (.ifCond .gt 17, 3) := by decide +kernel
theorem dX12_toThrow_78 : decode cX12_toThrow 78 = .ok (.goto 21, 3) := by decide +kernel
theorem dX12_toThrow_81 : decode cX12_toThrow 81 = .ok (.lload 7, 2) := by decide +kernel
theorem dX12_toThrow_83 : decode cX12_toThrow 83 = .ok (.lload 4, 2) := by decide +kernel
theorem dX12_toThrow_85 : decode cX12_toThrow 85 = .ok (.lcmp, 1) := by decide +kernel
theorem dX12_toThrow_86 : decode cX12_toThrow 86 = .ok (.ifCond .lt 6, 3) := by decide +kernel
theorem dX12_toThrow_89 : decode cX12_toThrow 89 = .ok (.goto 10, 3) := by decide +kernel
theorem dX12_toThrow_92 : decode cX12_toThrow 92 = .ok (.iload 6, 2) := by decide +kernel
theorem dX12_toThrow_94 : decode cX12_toThrow 94 = .ok (.istore_n 3, 1) := by decide +kernel
theorem dX12_toThrow_95 : decode cX12_toThrow 95 = .ok (.lload 7, 2) := by decide +kernel
theorem dX12_toThrow_97 : decode cX12_toThrow 97 = .ok (.lstore 4, 2) := by decide +kernel
theorem dX12_toThrow_99 : decode cX12_toThrow 99 = .ok (.iinc 6 1, 3) := by decide +kernel
theorem dX12_toThrow_102 : decode cX12_toThrow 102 = .ok (.goto (-73), 3) := by decide +kernel
theorem dX12_toThrow_105 : decode cX12_toThrow 105 = .ok (.aload_n 0, 1) := by decide +kernel
theorem dX12_toThrow_106 : decode cX12_toThrow 106 = .ok (.aload_n 0, 1) := by decide +kernel
theorem dX12_toThrow_107 : decode cX12_toThrow 107 = .ok (.getfield 139, 3) := by decide +kernel
theorem dX12_toThrow_110 : decode cX12_toThrow 110 = .ok (.putfield 143, 3) := by decide +kernel
theorem dX12_toThrow_113 : decode cX12_toThrow 113 = .ok (.iload_n 2, 1) := by decide +kernel
theorem dX12_toThrow_114 : decode cX12_toThrow 114 = .ok (.ifCond .ne 8, 3) := by decide +kernel
theorem dX12_toThrow_117 : decode cX12_toThrow 117 = .ok (.iload_n 3, 1) := by decide +kernel
theorem dX12_toThrow_118 : decode cX12_toThrow 118 = .ok (.i2l, 1) := by decide +kernel
theorem dX12_toThrow_119 : decode cX12_toThrow 119 = .ok (.goto 5, 3) := by decide +kernel
theorem dX12_toThrow_122 : decode cX12_toThrow 122 = .ok (.lload 4, 2) := by decide +kernel
theorem dX12_toThrow_124 : decode cX12_toThrow 124 = .ok (.lreturn, 1) := by decide +kernel
theorem dX12_isKnown_0 : decode cX12_isKnown 0 = .ok (.iload_n 1, 1) := by decide +kernel
theorem dX12_isKnown_1 : decode cX12_isKnown 1 = .ok (.iconst (-1), 1) := by decide +kernel
theorem dX12_isKnown_2 : decode cX12_isKnown 2 = .ok (.if_icmp .eq 11, 3) := by decide +kernel
theorem dX12_isKnown_5 : decode cX12_isKnown 5 = .ok (.aload_n 0, 1) := by decide +kernel
theorem dX12_isKnown_6 : decode cX12_isKnown 6 = .ok (.iload_n 1, 1) := by decide +kernel
theorem dX12_isKnown_7 : decode cX12_isKnown 7 = .ok (.invokevirtual 401, 3) := by decide +kernel
theorem dX12_isKnown_10 : decode cX12_isKnown 10 = .ok (.ifCond .eq 7, 3) := by decide +kernel
theorem dX12_isKnown_13 : decode cX12_isKnown 13 = .ok (.iconst 1, 1) := by decide +kernel
theorem dX12_isKnown_14 : decode cX12_isKnown 14 = .ok (.goto 4, 3) := by decide +kernel
theorem dX12_isKnown_17 : decode cX12_isKnown 17 = .ok (.iconst 0, 1) := by decide +kernel
theorem dX12_isKnown_18 : decode cX12_isKnown 18 = .ok (.ireturn, 1) := by decide +kernel
theorem dX12_by_0 : decode cX12_by 0 = .ok (.aload_n 0, 1) := by decide +kernel
theorem dX12_by_1 : decode cX12_by 1 = .ok (.iload_n 3, 1) := by decide +kernel
theorem dX12_by_2 : decode cX12_by 2 = .ok (.iload 4, 2) := by decide +kernel
theorem dX12_by_4 : decode cX12_by 4 = .ok (.iload 5, 2) := by decide +kernel
theorem dX12_by_6 : decode cX12_by 6 = .ok (.invokevirtual 203, 3) := by decide +kernel
theorem dX12_by_9 : decode cX12_by 9 = .ok (.istore 7, 2) := by decide +kernel
theorem dX12_by_11 : decode cX12_by 11 = .ok (.aload_n 0, 1) := by decide +kernel
theorem dX12_by_12 : decode cX12_by 12 = .ok (.iload_n 1, 1) := by decide +kernel
theorem dX12_by_13 : decode cX12_by 13 = .ok (.invokevirtual 404, 3) := by decide +kernel
theorem dX12_by_16 : decode cX12_by 16 = .ok (.ifCond .eq 27, 3) := by decide +kernel
theorem dX12_by_19 : decode cX12_by 19 = .ok (.aload_n 0, 1) := by decide +kernel
theorem dX12_by_20 : decode cX12_by 20 = .ok (.iload_n 2, 1) := by decide +kernel
theorem dX12_by_21 : decode cX12_by 21 = .ok (.invokevirtual 404, 3) := by decide +kernel
theorem dX12_by_24 : decode cX12_by 24 = .ok (.ifCond .eq 19, 3) := by decide +kernel
theorem dX12_by_27 : decode cX12_by 27 = .ok (.iload 7, 2) := by decide +kernel
theorem dX12_by_29 : decode cX12_by 29 = .ok (.iconst (-1), 1) := by decide +kernel
theorem dX12_by_30 : decode cX12_by 30 = .ok (.if_icmp .eq 13, 3) := by decide +kernel
theorem dX12_by_33 : decode cX12_by 33 = .ok (.iload 6, 2) := by decide +kernel
theorem dX12_by_35 : decode cX12_by 35 = .ok (.iconst 0, 1) := by decide +kernel
theorem dX12_by_36 : decode cX12_by 36 = .ok (.iconst 1, 1) := by decide +kernel
theorem dX12_by_37 : decode cX12_by 37 = .ok (.invokestatic 173, 3) := by decide +kernel
theorem dX12_by_40 : decode cX12_by 40 = .ok (.ifCond .ne 7, 3) := by decide +kernel
theorem dX12_by_43 : decode cX12_by 43 = .ok (.ldc2_w 388, 3) := by decide +kernel
theorem dX12_by_46 : decode cX12_by 46 = .ok (.lreturn, 1) := by decide +kernel
theorem dX12_by_47 : decode cX12_by 47 = .ok (.aload_n 0, 1) := by decide +kernel
theorem dX12_by_48 : decode cX12_by 48 = .ok (.aload_n 0, 1) := by decide +kernel
theorem dX12_by_49 : decode cX12_by 49 = .ok (.getfield 139, 3) := by decide +kernel
theorem dX12_by_52 : decode cX12_by 52 = .ok (.putfield 143, 3) := by decide +kernel
theorem dX12_by_55 : decode cX12_by 55 = .ok (.aload_n 0, 1) := by decide +kernel
theorem dX12_by_56 : decode cX12_by 56 = .ok (.iconst 0, 1) := by decide +kernel
theorem dX12_by_57 : decode cX12_by 57 = .ok (.iload_n 1, 1) := by decide +kernel
theorem dX12_by_58 : decode cX12_by 58 = .ok (.iload_n 2, 1) := by decide +kernel
theorem dX12_by_59 : decode cX12_by 59 = .ok (.invokevirtual 385, 3) := by decide +kernel
theorem dX12_by_62 : decode cX12_by 62 = .ok (.iload 6, 2) := by decide +kernel
theorem dX12_by_64 : decode cX12_by 64 = .ok (.ifCond .ne 13, 3) := by decide +kernel
theorem dX12_by_67 : decode cX12_by 67 = .ok (.aload_n 0, 1) := by decide +kernel
theorem dX12_by_68 : decode cX12_by 68 = .ok (.getfield 72, 3) := by decide +kernel
theorem dX12_by_71 : decode cX12_by 71 = .ok (.iload 7, 2) := by decide +kernel
theorem dX12_by_73 : decode cX12_by 73 = .ok (.laload, 1) := by decide +kernel
theorem dX12_by_74 : decode cX12_by 74 = .ok (.goto 11, 3) := by decide +kernel
theorem dX12_by_77 : decode cX12_by 77 = .ok (.aload_n 0, 1) := by decide +kernel
theorem dX12_by_78 : decode cX12_by 78 = .ok (.getfield 79, 3) := by decide +kernel
theorem dX12_by_81 : decode cX12_by 81 = .ok (.iload 7, 2) := by decide +kernel
theorem dX12_by_83 : decode cX12_by 83 = .ok (.baload, 1) := by decide +kernel
theorem dX12_by_84 : decode cX12_by 84 = .ok (.i2l, 1) := by decide +kernel
theorem dX12_by_85 : decode cX12_by 85 = .ok (.lreturn, 1) := by decide +kernel
theorem dX12_lastBall_0 : decode cX12_lastBall 0 = .ok (.iload_n 1, 1) := by decide +kernel
theorem dX12_lastBall_1 : decode cX12_lastBall 1 = .ok (.iconst 0, 1) := by decide +kernel
theorem dX12_lastBall_2 : decode cX12_lastBall 2 = .ok (.iconst 2, 1) := by decide +kernel
theorem dX12_lastBall_3 : decode cX12_lastBall 3 = .ok (.invokestatic 173, 3) := by decide +kernel
theorem dX12_lastBall_6 : decode cX12_lastBall 6 = .ok (.ifCond .ne 7, 3) := by decide +kernel
theorem dX12_lastBall_9 : decode cX12_lastBall 9 = .ok (.ldc2_w 388, 3) := by decide +kernel
theorem dX12_lastBall_12 : decode cX12_lastBall 12 = .ok (.lreturn, 1) := by decide +kernel
theorem dX12_lastBall_13 : decode cX12_lastBall 13 = .ok (.aload_n 0, 1) := by decide +kernel
theorem dX12_lastBall_14 : decode cX12_lastBall 14 = .ok (.invokevirtual 390, 3) := by decide +kernel
theorem dX12_lastBall_17 : decode cX12_lastBall 17 = .ok (.aload_n 0, 1) := by decide +kernel
theorem dX12_lastBall_18 : decode cX12_lastBall 18 = .ok (.getfield 72, 3) := by decide +kernel
theorem dX12_lastBall_21 : decode cX12_lastBall 21 = .ok (.aload_n 0, 1) := by decide +kernel
theorem dX12_lastBall_22 : decode cX12_lastBall 22 = .ok (.iconst 0, 1) := by decide +kernel
theorem dX12_lastBall_23 : decode cX12_lastBall 23 = .ok (.invokevirtual 398, 3) := by decide +kernel
theorem dX12_lastBall_26 : decode cX12_lastBall 26 = .ok (.laload, 1) := by decide +kernel
theorem dX12_lastBall_27 : decode cX12_lastBall 27 = .ok (.lstore_n 2, 1) := by decide +kernel
theorem dX12_lastBall_28 : decode cX12_lastBall 28 = .ok (.aload_n 0, 1) := by decide +kernel
theorem dX12_lastBall_29 : decode cX12_lastBall 29 = .ok (.getfield 72, 3) := by decide +kernel
theorem dX12_lastBall_32 : decode cX12_lastBall 32 = .ok (.aload_n 0, 1) := by decide +kernel
theorem dX12_lastBall_33 : decode cX12_lastBall 33 = .ok (.iconst 1, 1) := by decide +kernel
theorem dX12_lastBall_34 : decode cX12_lastBall 34 = .ok (.invokevirtual 398, 3) := by decide +kernel
theorem dX12_lastBall_37 : decode cX12_lastBall 37 = .ok (.laload, 1) := by decide +kernel
theorem dX12_lastBall_38 : decode cX12_lastBall 38 = .ok (.lstore 4, 2) := by decide +kernel
theorem dX12_lastBall_40 : decode cX12_lastBall 40 = .ok (.iload_n 1, 1) := by decide +kernel
theorem dX12_lastBall_41 : decode cX12_lastBall 41 = .ok (.ifCond .ne 10, 3) := by decide +kernel
theorem dX12_lastBall_44 : decode cX12_lastBall 44 = .ok (.lload 4, 2) := by decide +kernel
theorem dX12_lastBall_46 : decode cX12_lastBall 46 = .ok (.lload_n 2, 1) := by decide +kernel
theorem dX12_lastBall_47 : decode cX12_lastBall 47 = .ok (.lsub, 1) := by decide +kernel
theorem dX12_lastBall_48 : decode cX12_lastBall 48 = .ok (.goto 14, 3) := by decide +kernel
theorem dX12_lastBall_51 : decode cX12_lastBall 51 = .ok (.iload_n 1, 1) := by decide +kernel
theorem dX12_lastBall_52 : decode cX12_lastBall 52 = .ok (.iconst 1, 1) := by decide +kernel
theorem dX12_lastBall_53 : decode cX12_lastBall 53 = .ok (.if_icmp .ne 7, 3) := by decide +kernel
theorem dX12_lastBall_56 : decode cX12_lastBall 56 = .ok (.lload_n 2, 1) := by decide +kernel
theorem dX12_lastBall_57 : decode cX12_lastBall 57 = .ok (.goto 5, 3) := by decide +kernel
theorem dX12_lastBall_60 : decode cX12_lastBall 60 = .ok (.lload 4, 2) := by decide +kernel
theorem dX12_lastBall_62 : decode cX12_lastBall 62 = .ok (.lreturn, 1) := by decide +kernel
theorem dX12_lowOf_0 : decode cX12_lowOf 0 = .ok (.lconst 0, 1) := by decide +kernel
theorem dX12_lowOf_1 : decode cX12_lowOf 1 = .ok (.lstore_n 2, 1) := by decide +kernel
theorem dX12_lowOf_2 : decode cX12_lowOf 2 = .ok (.iconst 0, 1) := by decide +kernel
theorem dX12_lowOf_3 : decode cX12_lowOf 3 = .ok (.istore 4, 2) := by decide +kernel
theorem dX12_lowOf_5 : decode cX12_lowOf 5 = .ok (.iconst 0, 1) := by decide +kernel
theorem dX12_lowOf_6 : decode cX12_lowOf 6 = .ok (.istore 5, 2) := by decide +kernel
theorem dX12_lowOf_8 : decode cX12_lowOf 8 = .ok (.iload 5, 2) := by decide +kernel
theorem dX12_lowOf_10 : decode cX12_lowOf 10 = .ok (.iconst 4, 1) := by decide +kernel
theorem dX12_lowOf_11 : decode cX12_lowOf 11 = .ok (.if_icmp .ge 57, 3) := by decide +kernel
theorem dX12_lowOf_14 : decode cX12_lowOf 14 = .ok (.aload_n 0, 1) := by decide +kernel
theorem dX12_lowOf_15 : decode cX12_lowOf 15 = .ok (.iload 5, 2) := by decide +kernel
theorem dX12_lowOf_17 : decode cX12_lowOf 17 = .ok (.invokevirtual 401, 3) := by decide +kernel
theorem dX12_lowOf_20 : decode cX12_lowOf 20 = .ok (.ifCond .eq 42, 3) := by decide +kernel
theorem dX12_lowOf_23 : decode cX12_lowOf 23 = .ok (.iload 4, 2) := by decide +kernel
theorem dX12_lowOf_25 : decode cX12_lowOf 25 = .ok (.ifCond .eq 22, 3) := by decide +kernel
theorem dX12_lowOf_28 : decode cX12_lowOf 28 = .ok (.aload_n 0, 1) := by decide +kernel
theorem dX12_lowOf_29 : decode cX12_lowOf 29 = .ok (.getfield 82, 3) := by decide +kernel
theorem dX12_lowOf_32 : decode cX12_lowOf 32 = .ok (.iconst 4, 1) := by decide +kernel
theorem dX12_lowOf_33 : decode cX12_lowOf 33 = .ok (.iload_n 1, 1) := by decide +kernel
theorem dX12_lowOf_34 : decode cX12_lowOf 34 = .ok (.imul, 1) := by decide +kernel
theorem dX12_lowOf_35 : decode cX12_lowOf 35 = .ok (.iload 5, 2) := by decide +kernel
theorem dX12_lowOf_37 : decode cX12_lowOf 37 = .ok (.iadd, 1) := by decide +kernel
theorem dX12_lowOf_38 : decode cX12_lowOf 38 = .ok (.laload, 1) := by decide +kernel
theorem dX12_lowOf_39 : decode cX12_lowOf 39 = .ok (.lload_n 2, 1) := by decide +kernel
theorem dX12_lowOf_40 : decode cX12_lowOf 40 = .ok (.lcmp, 1) := by decide +kernel
theorem dX12_lowOf_41 : decode cX12_lowOf 41 = .ok (.ifCond .lt 6, 3) := by decide +kernel
theorem dX12_lowOf_44 : decode cX12_lowOf 44 = .ok (.goto 18, 3) := by decide +kernel
theorem dX12_lowOf_47 : decode cX12_lowOf 47 = .ok (.aload_n 0, 1) := by decide +kernel
theorem dX12_lowOf_48 : decode cX12_lowOf 48 = .ok (.getfield 82, 3) := by decide +kernel
theorem dX12_lowOf_51 : decode cX12_lowOf 51 = .ok (.iconst 4, 1) := by decide +kernel
theorem dX12_lowOf_52 : decode cX12_lowOf 52 = .ok (.iload_n 1, 1) := by decide +kernel
theorem dX12_lowOf_53 : decode cX12_lowOf 53 = .ok (.imul, 1) := by decide +kernel
theorem dX12_lowOf_54 : decode cX12_lowOf 54 = .ok (.iload 5, 2) := by decide +kernel
theorem dX12_lowOf_56 : decode cX12_lowOf 56 = .ok (.iadd, 1) := by decide +kernel
theorem dX12_lowOf_57 : decode cX12_lowOf 57 = .ok (.laload, 1) := by decide +kernel
theorem dX12_lowOf_58 : decode cX12_lowOf 58 = .ok (.lstore_n 2, 1) := by decide +kernel
theorem dX12_lowOf_59 : decode cX12_lowOf 59 = .ok (.iconst 1, 1) := by decide +kernel
theorem dX12_lowOf_60 : decode cX12_lowOf 60 = .ok (.istore 4, 2) := by decide +kernel
theorem dX12_lowOf_62 : decode cX12_lowOf 62 = .ok (.iinc 5 1, 3) := by decide +kernel
theorem dX12_lowOf_65 : decode cX12_lowOf 65 = .ok (.goto (-57), 3) := by decide +kernel
theorem dX12_lowOf_68 : decode cX12_lowOf 68 = .ok (.lload_n 2, 1) := by decide +kernel
theorem dX12_lowOf_69 : decode cX12_lowOf 69 = .ok (.lreturn, 1) := by decide +kernel
theorem dX12_highOf_0 : decode cX12_highOf 0 = .ok (.lconst 0, 1) := by decide +kernel
theorem dX12_highOf_1 : decode cX12_highOf 1 = .ok (.lstore_n 2, 1) := by decide +kernel
theorem dX12_highOf_2 : decode cX12_highOf 2 = .ok (.iconst 0, 1) := by decide +kernel
theorem dX12_highOf_3 : decode cX12_highOf 3 = .ok (.istore 4, 2) := by decide +kernel
theorem dX12_highOf_5 : decode cX12_highOf 5 = .ok (.iconst 0, 1) := by decide +kernel
theorem dX12_highOf_6 : decode cX12_highOf 6 = .ok (.istore 5, 2) := by decide +kernel
theorem dX12_highOf_8 : decode cX12_highOf 8 = .ok (.iload 5, 2) := by decide +kernel
theorem dX12_highOf_10 : decode cX12_highOf 10 = .ok (.iconst 4, 1) := by decide +kernel
theorem dX12_highOf_11 : decode cX12_highOf 11 = .ok (.if_icmp .ge 57, 3) := by decide +kernel
theorem dX12_highOf_14 : decode cX12_highOf 14 = .ok (.aload_n 0, 1) := by decide +kernel
theorem dX12_highOf_15 : decode cX12_highOf 15 = .ok (.iload 5, 2) := by decide +kernel
theorem dX12_highOf_17 : decode cX12_highOf 17 = .ok (.invokevirtual 401, 3) := by decide +kernel
theorem dX12_highOf_20 : decode cX12_highOf 20 = .ok (.ifCond .eq 42, 3) := by decide +kernel
theorem dX12_highOf_23 : decode cX12_highOf 23 = .ok (.iload 4, 2) := by decide +kernel
theorem dX12_highOf_25 : decode cX12_highOf 25 = .ok (.ifCond .eq 22, 3) := by decide +kernel
theorem dX12_highOf_28 : decode cX12_highOf 28 = .ok (.aload_n 0, 1) := by decide +kernel
theorem dX12_highOf_29 : decode cX12_highOf 29 = .ok (.getfield 82, 3) := by decide +kernel
theorem dX12_highOf_32 : decode cX12_highOf 32 = .ok (.iconst 4, 1) := by decide +kernel
theorem dX12_highOf_33 : decode cX12_highOf 33 = .ok (.iload 5, 2) := by decide +kernel
theorem dX12_highOf_35 : decode cX12_highOf 35 = .ok (.imul, 1) := by decide +kernel
theorem dX12_highOf_36 : decode cX12_highOf 36 = .ok (.iload_n 1, 1) := by decide +kernel
theorem dX12_highOf_37 : decode cX12_highOf 37 = .ok (.iadd, 1) := by decide +kernel
theorem dX12_highOf_38 : decode cX12_highOf 38 = .ok (.laload, 1) := by decide +kernel
theorem dX12_highOf_39 : decode cX12_highOf 39 = .ok (.lload_n 2, 1) := by decide +kernel
theorem dX12_highOf_40 : decode cX12_highOf 40 = .ok (.lcmp, 1) := by decide +kernel
theorem dX12_highOf_41 : decode cX12_highOf 41 = .ok (.ifCond .gt 6, 3) := by decide +kernel
theorem dX12_highOf_44 : decode cX12_highOf 44 = .ok (.goto 18, 3) := by decide +kernel
theorem dX12_highOf_47 : decode cX12_highOf 47 = .ok (.aload_n 0, 1) := by decide +kernel
theorem dX12_highOf_48 : decode cX12_highOf 48 = .ok (.getfield 82, 3) := by decide +kernel
theorem dX12_highOf_51 : decode cX12_highOf 51 = .ok (.iconst 4, 1) := by decide +kernel
theorem dX12_highOf_52 : decode cX12_highOf 52 = .ok (.iload 5, 2) := by decide +kernel
theorem dX12_highOf_54 : decode cX12_highOf 54 = .ok (.imul, 1) := by decide +kernel
theorem dX12_highOf_55 : decode cX12_highOf 55 = .ok (.iload_n 1, 1) := by decide +kernel
theorem dX12_highOf_56 : decode cX12_highOf 56 = .ok (.iadd, 1) := by decide +kernel
theorem dX12_highOf_57 : decode cX12_highOf 57 = .ok (.laload, 1) := by decide +kernel
theorem dX12_highOf_58 : decode cX12_highOf 58 = .ok (.lstore_n 2, 1) := by decide +kernel
theorem dX12_highOf_59 : decode cX12_highOf 59 = .ok (.iconst 1, 1) := by decide +kernel
theorem dX12_highOf_60 : decode cX12_highOf 60 = .ok (.istore 4, 2) := by decide +kernel
theorem dX12_highOf_62 : decode cX12_highOf 62 = .ok (.iinc 5 1, 3) := by decide +kernel
theorem dX12_highOf_65 : decode cX12_highOf 65 = .ok (.goto (-57), 3) := by decide +kernel
theorem dX12_highOf_68 : decode cX12_highOf 68 = .ok (.lload_n 2, 1) := by decide +kernel
theorem dX12_highOf_69 : decode cX12_highOf 69 = .ok (.lreturn, 1) := by decide +kernel
theorem dX12_laysTable_0 : decode cX12_laysTable 0 = .ok (.aload_n 0, 1) := by decide +kernel
theorem dX12_laysTable_1 : decode cX12_laysTable 1 = .ok (.aload_n 0, 1) := by decide +kernel
theorem dX12_laysTable_2 : decode cX12_laysTable 2 = .ok (.getfield 139, 3) := by decide +kernel
theorem dX12_laysTable_5 : decode cX12_laysTable 5 = .ok (.putfield 143, 3) := by decide +kernel
theorem dX12_laysTable_8 : decode cX12_laysTable 8 = .ok (.iconst 0, 1) := by decide +kernel
theorem dX12_laysTable_9 : decode cX12_laysTable 9 = .ok (.istore_n 1, 1) := by decide +kernel
theorem dX12_laysTable_10 : decode cX12_laysTable 10 = .ok (.iload_n 1, 1) := by decide +kernel
theorem dX12_laysTable_11 : decode cX12_laysTable 11 = .ok (.iconst 4, 1) := by decide +kernel
theorem dX12_laysTable_12 : decode cX12_laysTable 12 = .ok (.if_icmp .ge 68, 3) := by decide +kernel
theorem dX12_laysTable_15 : decode cX12_laysTable 15 = .ok (.iconst 0, 1) := by decide +kernel
theorem dX12_laysTable_16 : decode cX12_laysTable 16 = .ok (.istore_n 2, 1) := by decide +kernel
theorem dX12_laysTable_17 : decode cX12_laysTable 17 = .ok (.iload_n 2, 1) := by decide +kernel
theorem dX12_laysTable_18 : decode cX12_laysTable 18 = .ok (.iconst 4, 1) := by decide +kernel
theorem dX12_laysTable_19 : decode cX12_laysTable 19 = .ok (.if_icmp .ge 55, 3) := by decide +kernel
theorem dX12_laysTable_22 : decode cX12_laysTable 22 = .ok (.aload_n 0, 1) := by decide +kernel
theorem dX12_laysTable_23 : decode cX12_laysTable 23 = .ok (.iload_n 1, 1) := by decide +kernel
theorem dX12_laysTable_24 : decode cX12_laysTable 24 = .ok (.invokevirtual 401, 3) := by decide +kernel
theorem dX12_laysTable_27 : decode cX12_laysTable 27 = .ok (.ifCond .eq 41, 3) := by decide +kernel
theorem dX12_laysTable_30 : decode cX12_laysTable 30 = .ok (.aload_n 0, 1) := by decide +kernel
theorem dX12_laysTable_31 : decode cX12_laysTable 31 = .ok (.iload_n 2, 1) := by decide +kernel
theorem dX12_laysTable_32 : decode cX12_laysTable 32 = .ok (.invokevirtual 401, 3) := by decide +kernel
theorem dX12_laysTable_35 : decode cX12_laysTable 35 = .ok (.ifCond .ne 6, 3) := by decide +kernel
theorem dX12_laysTable_38 : decode cX12_laysTable 38 = .ok (.goto 30, 3) := by decide +kernel
theorem dX12_laysTable_41 : decode cX12_laysTable 41 = .ok (.aload_n 0, 1) := by decide +kernel
theorem dX12_laysTable_42 : decode cX12_laysTable 42 = .ok (.iconst 0, 1) := by decide +kernel
theorem dX12_laysTable_43 : decode cX12_laysTable 43 = .ok (.iload_n 1, 1) := by decide +kernel
theorem dX12_laysTable_44 : decode cX12_laysTable 44 = .ok (.iload_n 2, 1) := by decide +kernel
theorem dX12_laysTable_45 : decode cX12_laysTable 45 = .ok (.invokevirtual 385, 3) := by decide +kernel
theorem dX12_laysTable_48 : decode cX12_laysTable 48 = .ok (.aload_n 0, 1) := by decide +kernel
theorem dX12_laysTable_49 : decode cX12_laysTable 49 = .ok (.getfield 82, 3) := by decide +kernel
theorem dX12_laysTable_52 : decode cX12_laysTable 52 = .ok (.iconst 4, 1) := by decide +kernel
theorem dX12_laysTable_53 : decode cX12_laysTable 53 = .ok (.iload_n 1, 1) := by decide +kernel
theorem dX12_laysTable_54 : decode cX12_laysTable 54 = .ok (.imul, 1) := by decide +kernel
theorem dX12_laysTable_55 : decode cX12_laysTable 55 = .ok (.iload_n 2, 1) := by decide +kernel
theorem dX12_laysTable_56 : decode cX12_laysTable 56 = .ok (.iadd, 1) := by decide +kernel
theorem dX12_laysTable_57 : decode cX12_laysTable 57 = .ok (.aload_n 0, 1) := by decide +kernel
theorem dX12_laysTable_58 : decode cX12_laysTable 58 = .ok (.getfield 72, 3) := by decide +kernel
theorem dX12_laysTable_61 : decode cX12_laysTable 61 = .ok (.aload_n 0, 1) := by decide +kernel
theorem dX12_laysTable_62 : decode cX12_laysTable 62 = .ok (.iconst 0, 1) := by decide +kernel
theorem dX12_laysTable_63 : decode cX12_laysTable 63 = .ok (.invokevirtual 398, 3) := by decide +kernel
theorem dX12_laysTable_66 : decode cX12_laysTable 66 = .ok (.laload, 1) := by decide +kernel
theorem dX12_laysTable_67 : decode cX12_laysTable 67 = .ok (.lastore, 1) := by decide +kernel
theorem dX12_laysTable_68 : decode cX12_laysTable 68 = .ok (.iinc 2 1, 3) := by decide +kernel
theorem dX12_laysTable_71 : decode cX12_laysTable 71 = .ok (.goto (-54), 3) := by decide +kernel
theorem dX12_laysTable_74 : decode cX12_laysTable 74 = .ok (.iinc 1 1, 3) := by decide +kernel
theorem dX12_laysTable_77 : decode cX12_laysTable 77 = .ok (.goto (-67), 3) := by decide +kernel
theorem dX12_laysTable_80 : decode cX12_laysTable 80 = .ok (.return_, 1) := by decide +kernel
theorem dX12_game_0 : decode cX12_game 0 = .ok (.iload_n 1, 1) := by decide +kernel
theorem dX12_game_1 : decode cX12_game 1 = .ok (.iconst 0, 1) := by decide +kernel
theorem dX12_game_2 : decode cX12_game 2 = .ok (.iconst 3, 1) := by decide +kernel
theorem dX12_game_3 : decode cX12_game 3 = .ok (.invokestatic 173, 3) := by decide +kernel
theorem dX12_game_6 : decode cX12_game 6 = .ok (.ifCond .ne 7, 3) := by decide +kernel
theorem dX12_game_9 : decode cX12_game 9 = .ok (.ldc2_w 393, 3) := by decide +kernel
theorem dX12_game_12 : decode cX12_game 12 = .ok (.lreturn, 1) := by decide +kernel
theorem dX12_game_13 : decode cX12_game 13 = .ok (.iconst (-1), 1) := by decide +kernel
theorem dX12_game_14 : decode cX12_game 14 = .ok (.istore_n 2, 1) := by decide +kernel
theorem dX12_game_15 : decode cX12_game 15 = .ok (.iconst (-1), 1) := by decide +kernel
theorem dX12_game_16 : decode cX12_game 16 = .ok (.istore_n 3, 1) := by decide +kernel
theorem dX12_game_17 : decode cX12_game 17 = .ok (.aload_n 0, 1) := by decide +kernel
theorem dX12_game_18 : decode cX12_game 18 = .ok (.invokevirtual 407, 3) := by decide +kernel
theorem dX12_game_21 : decode cX12_game 21 = .ok (.iconst 0, 1) := by decide +kernel
theorem dX12_game_22 : decode cX12_game 22 = .ok (.istore 4, 2) := by decide +kernel
theorem dX12_game_24 : decode cX12_game 24 = .ok (.iload 4, 2) := by decide +kernel
theorem dX12_game_26 : decode cX12_game 26 = .ok (.iconst 4, 1) := by decide +kernel
theorem dX12_game_27 : decode cX12_game 27 = .ok (.if_icmp .ge 67, 3) := by decide +kernel
theorem dX12_game_30 : decode cX12_game 30 = .ok (.aload_n 0, 1) := by decide +kernel
theorem dX12_game_31 : decode cX12_game 31 = .ok (.iload 4, 2) := by decide +kernel
theorem dX12_game_33 : decode cX12_game 33 = .ok (.invokevirtual 401, 3) := by decide +kernel
theorem dX12_game_36 : decode cX12_game 36 = .ok (.ifCond .ne 6, 3) := by decide +kernel
theorem dX12_game_39 : decode cX12_game 39 = .ok (.goto 49, 3) := by decide +kernel
theorem dX12_game_42 : decode cX12_game 42 = .ok (.iload_n 2, 1) := by decide +kernel
theorem dX12_game_43 : decode cX12_game 43 = .ok (.iconst (-1), 1) := by decide +kernel
theorem dX12_game_44 : decode cX12_game 44 = .ok (.if_icmp .eq 18, 3) := by decide +kernel
theorem dX12_game_47 : decode cX12_game 47 = .ok (.aload_n 0, 1) := by decide +kernel
theorem dX12_game_48 : decode cX12_game 48 = .ok (.iload 4, 2) := by decide +kernel
theorem dX12_game_50 : decode cX12_game 50 = .ok (.invokevirtual 410, 3) := by decide +kernel
theorem dX12_game_53 : decode cX12_game 53 = .ok (.aload_n 0, 1) := by decide +kernel
theorem dX12_game_54 : decode cX12_game 54 = .ok (.iload_n 2, 1) := by decide +kernel
theorem dX12_game_55 : decode cX12_game 55 = .ok (.invokevirtual 410, 3) := by decide +kernel
theorem dX12_game_58 : decode cX12_game 58 = .ok (.lcmp, 1) := by decide +kernel
theorem dX12_game_59 : decode cX12_game 59 = .ok (.ifCond .le 6, 3) := by decide +kernel
theorem dX12_game_62 : decode cX12_game 62 = .ok (.iload 4, 2) := by decide +kernel
theorem dX12_game_64 : decode cX12_game 64 = .ok (.istore_n 2, 1) := by decide +kernel
theorem dX12_game_65 : decode cX12_game 65 = .ok (.iload_n 3, 1) := by decide +kernel
theorem dX12_game_66 : decode cX12_game 66 = .ok (.iconst (-1), 1) := by decide +kernel
theorem dX12_game_67 : decode cX12_game 67 = .ok (.if_icmp .eq 18, 3) := by decide +kernel
theorem dX12_game_70 : decode cX12_game 70 = .ok (.aload_n 0, 1) := by decide +kernel
theorem dX12_game_71 : decode cX12_game 71 = .ok (.iload 4, 2) := by decide +kernel
theorem dX12_game_73 : decode cX12_game 73 = .ok (.invokevirtual 414, 3) := by decide +kernel
theorem dX12_game_76 : decode cX12_game 76 = .ok (.aload_n 0, 1) := by decide +kernel
theorem dX12_game_77 : decode cX12_game 77 = .ok (.iload_n 3, 1) := by decide +kernel
theorem dX12_game_78 : decode cX12_game 78 = .ok (.invokevirtual 414, 3) := by decide +kernel
theorem dX12_game_81 : decode cX12_game 81 = .ok (.lcmp, 1) := by decide +kernel
theorem dX12_game_82 : decode cX12_game 82 = .ok (.ifCond .ge 6, 3) := by decide +kernel
theorem dX12_game_85 : decode cX12_game 85 = .ok (.iload 4, 2) := by decide +kernel
theorem dX12_game_87 : decode cX12_game 87 = .ok (.istore_n 3, 1) := by decide +kernel
theorem dX12_game_88 : decode cX12_game 88 = .ok (.iinc 4 1, 3) := by decide +kernel
theorem dX12_game_91 : decode cX12_game 91 = .ok (.goto (-67), 3) := by decide +kernel
theorem dX12_game_94 : decode cX12_game 94 = .ok (.iload_n 2, 1) := by decide +kernel
theorem dX12_game_95 : decode cX12_game 95 = .ok (.iconst (-1), 1) := by decide +kernel
theorem dX12_game_96 : decode cX12_game 96 = .ok (.if_icmp .ne 7, 3) := by decide +kernel
theorem dX12_game_99 : decode cX12_game 99 = .ok (.ldc2_w 417, 3) := by decide +kernel
theorem dX12_game_102 : decode cX12_game 102 = .ok (.lreturn, 1) := by decide +kernel
theorem dX12_game_103 : decode cX12_game 103 = .ok (.iload_n 1, 1) := by decide +kernel
theorem dX12_game_104 : decode cX12_game 104 = .ok (.ifCond .ne 11, 3) := by decide +kernel
theorem dX12_game_107 : decode cX12_game 107 = .ok (.aload_n 0, 1) := by decide +kernel
theorem dX12_game_108 : decode cX12_game 108 = .ok (.iload_n 2, 1) := by decide +kernel
theorem dX12_game_109 : decode cX12_game 109 = .ok (.invokevirtual 410, 3) := by decide +kernel
theorem dX12_game_112 : decode cX12_game 112 = .ok (.goto 28, 3) := by decide +kernel
theorem dX12_game_115 : decode cX12_game 115 = .ok (.iload_n 1, 1) := by decide +kernel
theorem dX12_game_116 : decode cX12_game 116 = .ok (.iconst 1, 1) := by decide +kernel
theorem dX12_game_117 : decode cX12_game 117 = .ok (.if_icmp .ne 8, 3) := by decide +kernel
theorem dX12_game_120 : decode cX12_game 120 = .ok (.iload_n 2, 1) := by decide +kernel
theorem dX12_game_121 : decode cX12_game 121 = .ok (.i2l, 1) := by decide +kernel
theorem dX12_game_122 : decode cX12_game 122 = .ok (.goto 18, 3) := by decide +kernel
theorem dX12_game_125 : decode cX12_game 125 = .ok (.iload_n 1, 1) := by decide +kernel
theorem dX12_game_126 : decode cX12_game 126 = .ok (.iconst 2, 1) := by decide +kernel
theorem dX12_game_127 : decode cX12_game 127 = .ok (.if_icmp .ne 11, 3) := by decide +kernel
theorem dX12_game_130 : decode cX12_game 130 = .ok (.aload_n 0, 1) := by decide +kernel
theorem dX12_game_131 : decode cX12_game 131 = .ok (.iload_n 3, 1) := by decide +kernel
theorem dX12_game_132 : decode cX12_game 132 = .ok (.invokevirtual 414, 3) := by decide +kernel
theorem dX12_game_135 : decode cX12_game 135 = .ok (.goto 5, 3) := by decide +kernel
theorem dX12_game_138 : decode cX12_game 138 = .ok (.iload_n 3, 1) := by decide +kernel
theorem dX12_game_139 : decode cX12_game 139 = .ok (.i2l, 1) := by decide +kernel
theorem dX12_game_140 : decode cX12_game 140 = .ok (.lreturn, 1) := by decide +kernel
theorem dX12_laysEnds_0 : decode cX12_laysEnds 0 = .ok (.aload_n 0, 1) := by decide +kernel
theorem dX12_laysEnds_1 : decode cX12_laysEnds 1 = .ok (.invokevirtual 390, 3) := by decide +kernel
theorem dX12_laysEnds_4 : decode cX12_laysEnds 4 = .ok (.bipush (-3), 2) := by decide +kernel
theorem dX12_laysEnds_6 : decode cX12_laysEnds 6 = .ok (.istore_n 1, 1) := by decide +kernel
theorem dX12_laysEnds_7 : decode cX12_laysEnds 7 = .ok (.iload_n 1, 1) := by decide +kernel
theorem dX12_laysEnds_8 : decode cX12_laysEnds 8 = .ok (.iconst 3, 1) := by decide +kernel
theorem dX12_laysEnds_9 : decode cX12_laysEnds 9 = .ok (.if_icmp .gt 51, 3) := by decide +kernel
theorem dX12_laysEnds_12 : decode cX12_laysEnds 12 = .ok (.aload_n 0, 1) := by decide +kernel
theorem dX12_laysEnds_13 : decode cX12_laysEnds 13 = .ok (.iload_n 1, 1) := by decide +kernel
theorem dX12_laysEnds_14 : decode cX12_laysEnds 14 = .ok (.invokevirtual 395, 3) := by decide +kernel
theorem dX12_laysEnds_17 : decode cX12_laysEnds 17 = .ok (.aload_n 0, 1) := by decide +kernel
theorem dX12_laysEnds_18 : decode cX12_laysEnds 18 = .ok (.getfield 85, 3) := by decide +kernel
theorem dX12_laysEnds_21 : decode cX12_laysEnds 21 = .ok (.iload_n 1, 1) := by decide +kernel
theorem dX12_laysEnds_22 : decode cX12_laysEnds 22 = .ok (.iconst 3, 1) := by decide +kernel
theorem dX12_laysEnds_23 : decode cX12_laysEnds 23 = .ok (.iadd, 1) := by decide +kernel
theorem dX12_laysEnds_24 : decode cX12_laysEnds 24 = .ok (.aload_n 0, 1) := by decide +kernel
theorem dX12_laysEnds_25 : decode cX12_laysEnds 25 = .ok (.getfield 76, 3) := by decide +kernel
theorem dX12_laysEnds_28 : decode cX12_laysEnds 28 = .ok (.aload_n 0, 1) := by decide +kernel
theorem dX12_laysEnds_29 : decode cX12_laysEnds 29 = .ok (.iconst 0, 1) := by decide +kernel
theorem dX12_laysEnds_30 : decode cX12_laysEnds 30 = .ok (.invokevirtual 398, 3) := by decide +kernel
theorem dX12_laysEnds_33 : decode cX12_laysEnds 33 = .ok (.laload, 1) := by decide +kernel
theorem dX12_laysEnds_34 : decode cX12_laysEnds 34 = .ok (.lastore, 1) := by decide +kernel
theorem dX12_laysEnds_35 : decode cX12_laysEnds 35 = .ok (.aload_n 0, 1) := by decide +kernel
theorem dX12_laysEnds_36 : decode cX12_laysEnds 36 = .ok (.getfield 85, 3) := by decide +kernel
theorem dX12_laysEnds_39 : decode cX12_laysEnds 39 = .ok (.iload_n 1, 1) := by decide +kernel
theorem dX12_laysEnds_40 : decode cX12_laysEnds 40 = .ok (.bipush 10, 2) := by decide +kernel
theorem dX12_laysEnds_42 : decode cX12_laysEnds 42 = .ok (.iadd, 1) := by decide +kernel
theorem dX12_laysEnds_43 : decode cX12_laysEnds 43 = .ok (.aload_n 0, 1) := by decide +kernel
theorem dX12_laysEnds_44 : decode cX12_laysEnds 44 = .ok (.getfield 76, 3) := by decide +kernel
theorem dX12_laysEnds_47 : decode cX12_laysEnds 47 = .ok (.aload_n 0, 1) := by decide +kernel
theorem dX12_laysEnds_48 : decode cX12_laysEnds 48 = .ok (.iconst 1, 1) := by decide +kernel
theorem dX12_laysEnds_49 : decode cX12_laysEnds 49 = .ok (.invokevirtual 398, 3) := by decide +kernel
theorem dX12_laysEnds_52 : decode cX12_laysEnds 52 = .ok (.laload, 1) := by decide +kernel
theorem dX12_laysEnds_53 : decode cX12_laysEnds 53 = .ok (.lastore, 1) := by decide +kernel
theorem dX12_laysEnds_54 : decode cX12_laysEnds 54 = .ok (.iinc 1 1, 3) := by decide +kernel
theorem dX12_laysEnds_57 : decode cX12_laysEnds 57 = .ok (.goto (-50), 3) := by decide +kernel
theorem dX12_laysEnds_60 : decode cX12_laysEnds 60 = .ok (.return_, 1) := by decide +kernel
theorem dX12_winsBy_0 : decode cX12_winsBy 0 = .ok (.iload_n 1, 1) := by decide +kernel
theorem dX12_winsBy_1 : decode cX12_winsBy 1 = .ok (.bipush 13, 2) := by decide +kernel
theorem dX12_winsBy_3 : decode cX12_winsBy 3 = .ok (.if_icmp .ne 7, 3) := by decide +kernel
theorem dX12_winsBy_6 : decode cX12_winsBy 6 = .ok (.ldc_w 419, 3) := by decide +kernel
theorem dX12_winsBy_9 : decode cX12_winsBy 9 = .ok (.ireturn, 1) := by decide +kernel
theorem dX12_winsBy_10 : decode cX12_winsBy 10 = .ok (.iload_n 2, 1) := by decide +kernel
theorem dX12_winsBy_11 : decode cX12_winsBy 11 = .ok (.bipush 13, 2) := by decide +kernel
theorem dX12_winsBy_13 : decode cX12_winsBy 13 = .ok (.if_icmp .ne 5, 3) := by decide +kernel
theorem dX12_winsBy_16 : decode cX12_winsBy 16 = .ok (.iconst 0, 1) := by decide +kernel
theorem dX12_winsBy_17 : decode cX12_winsBy 17 = .ok (.ireturn, 1) := by decide +kernel
theorem dX12_winsBy_18 : decode cX12_winsBy 18 = .ok (.lconst 0, 1) := by decide +kernel
theorem dX12_winsBy_19 : decode cX12_winsBy 19 = .ok (.lstore 4, 2) := by decide +kernel
theorem dX12_winsBy_21 : decode cX12_winsBy 21 = .ok (.lconst 0, 1) := by decide +kernel
theorem dX12_winsBy_22 : decode cX12_winsBy 22 = .ok (.lstore 6, 2) := by decide +kernel
theorem dX12_winsBy_24 : decode cX12_winsBy 24 = .ok (.bipush (-3), 2) := by decide +kernel
theorem dX12_winsBy_26 : decode cX12_winsBy 26 = .ok (.istore 8, 2) := by decide +kernel
theorem dX12_winsBy_28 : decode cX12_winsBy 28 = .ok (.iload 8, 2) := by decide +kernel
theorem dX12_winsBy_30 : decode cX12_winsBy 30 = .ok (.iconst 3, 1) := by decide +kernel
theorem dX12_winsBy_31 : decode cX12_winsBy 31 = .ok (.if_icmp .gt 100, 3) := by decide +kernel
theorem dX12_winsBy_34 : decode cX12_winsBy 34 = .ok (.iload 8, 2) := by decide +kernel
theorem dX12_winsBy_36 : decode cX12_winsBy 36 = .ok (.ifCond .ne 6, 3) := by decide +kernel
theorem dX12_winsBy_39 : decode cX12_winsBy 39 = .ok (.goto 86, 3) := by decide +kernel
theorem dX12_winsBy_42 : decode cX12_winsBy 42 = .ok (.aload_n 0, 1) := by decide +kernel
theorem dX12_winsBy_43 : decode cX12_winsBy 43 = .ok (.getfield 85, 3) := by decide +kernel
theorem dX12_winsBy_46 : decode cX12_winsBy 46 = .ok (.bipush 7, 2) := by decide +kernel
theorem dX12_winsBy_48 : decode cX12_winsBy 48 = .ok (.iload_n 3, 1) := by decide +kernel
theorem dX12_winsBy_49 : decode cX12_winsBy 49 = .ok (.imul, 1) := by decide +kernel
theorem dX12_winsBy_50 : decode cX12_winsBy 50 = .ok (.iload 8, 2) := by decide +kernel
theorem dX12_winsBy_52 : decode cX12_winsBy 52 = .ok (.iadd, 1) := by decide +kernel
theorem dX12_winsBy_53 : decode cX12_winsBy 53 = .ok (.iconst 3, 1) := by decide +kernel
theorem dX12_winsBy_54 : decode cX12_winsBy 54 = .ok (.iadd, 1) := by decide +kernel
theorem dX12_winsBy_55 : decode cX12_winsBy 55 = .ok (.laload, 1) := by decide +kernel
theorem dX12_winsBy_56 : decode cX12_winsBy 56 = .ok (.lstore 9, 2) := by decide +kernel
theorem dX12_winsBy_58 : decode cX12_winsBy 58 = .ok (.iload 8, 2) := by decide +kernel
theorem dX12_winsBy_60 : decode cX12_winsBy 60 = .ok (.ifCond .le 22, 3) := by decide +kernel
theorem dX12_winsBy_63 : decode cX12_winsBy 63 = .ok (.bipush 28, 2) := by decide +kernel
theorem dX12_winsBy_65 : decode cX12_winsBy 65 = .ok (.bipush 13, 2) := by decide +kernel
theorem dX12_winsBy_67 : decode cX12_winsBy 67 = .ok (.iload_n 1, 1) := by decide +kernel
theorem dX12_winsBy_68 : decode cX12_winsBy 68 = .ok (.iload 8, 2) := by decide +kernel
theorem dX12_winsBy_70 : decode cX12_winsBy 70 = .ok (.iadd, 1) := by decide +kernel
theorem dX12_winsBy_71 : decode cX12_winsBy 71 = .ok (.invokestatic 420, 3) := by decide +kernel
theorem dX12_winsBy_74 : decode cX12_winsBy 74 = .ok (.imul, 1) := by decide +kernel
theorem dX12_winsBy_75 : decode cX12_winsBy 75 = .ok (.iconst 2, 1) := by decide +kernel
theorem dX12_winsBy_76 : decode cX12_winsBy 76 = .ok (.iload_n 2, 1) := by decide +kernel
theorem dX12_winsBy_77 : decode cX12_winsBy 77 = .ok (.imul, 1) := by decide +kernel
theorem dX12_winsBy_78 : decode cX12_winsBy 78 = .ok (.iadd, 1) := by decide +kernel
theorem dX12_winsBy_79 : decode cX12_winsBy 79 = .ok (.goto 21, 3) := by decide +kernel
theorem dX12_winsBy_82 : decode cX12_winsBy 82 = .ok (.bipush 28, 2) := by decide +kernel
theorem dX12_winsBy_84 : decode cX12_winsBy 84 = .ok (.iload_n 1, 1) := by decide +kernel
theorem dX12_winsBy_85 : decode cX12_winsBy 85 = .ok (.imul, 1) := by decide +kernel
theorem dX12_winsBy_86 : decode cX12_winsBy 86 = .ok (.iconst 2, 1) := by decide +kernel
theorem dX12_winsBy_87 : decode cX12_winsBy 87 = .ok (.bipush 13, 2) := by decide +kernel
theorem dX12_winsBy_89 : decode cX12_winsBy 89 = .ok (.iload_n 2, 1) := by decide +kernel
theorem dX12_winsBy_90 : decode cX12_winsBy 90 = .ok (.iload 8, 2) := by decide +kernel
theorem dX12_winsBy_92 : decode cX12_winsBy 92 = .ok (.isub, 1) := by decide +kernel
theorem dX12_winsBy_93 : decode cX12_winsBy 93 = .ok (.invokestatic 420, 3) := by decide +kernel
theorem dX12_winsBy_96 : decode cX12_winsBy 96 = .ok (.imul, 1) := by decide +kernel
theorem dX12_winsBy_97 : decode cX12_winsBy 97 = .ok (.iadd, 1) := by decide +kernel
theorem dX12_winsBy_98 : decode cX12_winsBy 98 = .ok (.iconst 1, 1) := by decide +kernel
theorem dX12_winsBy_99 : decode cX12_winsBy 99 = .ok (.iadd, 1) := by decide +kernel
theorem dX12_winsBy_100 : decode cX12_winsBy 100 = .ok (.istore 11, 2) := by decide +kernel
theorem dX12_winsBy_102 : decode cX12_winsBy 102 = .ok (.lload 6, 2) := by decide +kernel
theorem dX12_winsBy_104 : decode cX12_winsBy 104 = .ok (.lload 9, 2) := by decide +kernel
theorem dX12_winsBy_106 : decode cX12_winsBy 106 = .ok (.ladd, 1) := by decide +kernel
theorem dX12_winsBy_107 : decode cX12_winsBy 107 = .ok (.lstore 6, 2) := by decide +kernel
theorem dX12_winsBy_109 : decode cX12_winsBy 109 = .ok (.lload 4, 2) := by decide +kernel
theorem dX12_winsBy_111 : decode cX12_winsBy 111 = .ok (.lload 9, 2) := by decide +kernel
theorem dX12_winsBy_113 : decode cX12_winsBy 113 = .ok (.aload_n 0, 1) := by decide +kernel
theorem dX12_winsBy_114 : decode cX12_winsBy 114 = .ok (.getfield 88, 3) := by decide +kernel
theorem dX12_winsBy_117 : decode cX12_winsBy 117 = .ok (.iload 11, 2) := by decide +kernel
theorem dX12_winsBy_119 : decode cX12_winsBy 119 = .ok (.iaload, 1) := by decide +kernel
theorem dX12_winsBy_120 : decode cX12_winsBy 120 = .ok (.i2l, 1) := by decide +kernel
theorem dX12_winsBy_121 : decode cX12_winsBy 121 = .ok (.lmul, 1) := by decide +kernel
theorem dX12_winsBy_122 : decode cX12_winsBy 122 = .ok (.ladd, 1) := by decide +kernel
theorem dX12_winsBy_123 : decode cX12_winsBy 123 = .ok (.lstore 4, 2) := by decide +kernel
theorem dX12_winsBy_125 : decode cX12_winsBy 125 = .ok (.iinc 8 1, 3) := by decide +kernel
theorem dX12_winsBy_128 : decode cX12_winsBy 128 = .ok (.goto (-100), 3) := by decide +kernel
theorem dX12_winsBy_131 : decode cX12_winsBy 131 = .ok (.lload 6, 2) := by decide +kernel
theorem dX12_winsBy_133 : decode cX12_winsBy 133 = .ok (.lconst 0, 1) := by decide +kernel
theorem dX12_winsBy_134 : decode cX12_winsBy 134 = .ok (.lcmp, 1) := by decide +kernel
theorem dX12_winsBy_135 : decode cX12_winsBy 135 = .ok (.ifCond .ne 9, 3) := by decide +kernel
theorem dX12_winsBy_138 : decode cX12_winsBy 138 = .ok (.ldc_w 423, 3) := by decide +kernel
theorem dX12_winsBy_141 : decode cX12_winsBy 141 = .ok (.goto 9, 3) := by decide +kernel
theorem dX12_winsBy_144 : decode cX12_winsBy 144 = .ok (.lload 4, 2) := by decide +kernel
theorem dX12_winsBy_146 : decode cX12_winsBy 146 = .ok (.lload 6, 2) := by decide +kernel
theorem dX12_winsBy_148 : decode cX12_winsBy 148 = .ok (.ldiv, 1) := by decide +kernel
theorem dX12_winsBy_149 : decode cX12_winsBy 149 = .ok (.l2i, 1) := by decide +kernel
theorem dX12_winsBy_150 : decode cX12_winsBy 150 = .ok (.ireturn, 1) := by decide +kernel
theorem dX12_match_0 : decode cX12_match 0 = .ok (.iload_n 1, 1) := by decide +kernel
theorem dX12_match_1 : decode cX12_match 1 = .ok (.iconst 0, 1) := by decide +kernel
theorem dX12_match_2 : decode cX12_match 2 = .ok (.bipush 13, 2) := by decide +kernel
theorem dX12_match_4 : decode cX12_match 4 = .ok (.invokestatic 173, 3) := by decide +kernel
theorem dX12_match_7 : decode cX12_match 7 = .ok (.ifCond .eq 32, 3) := by decide +kernel
theorem dX12_match_10 : decode cX12_match 10 = .ok (.iload_n 2, 1) := by decide +kernel
theorem dX12_match_11 : decode cX12_match 11 = .ok (.iconst 0, 1) := by decide +kernel
theorem dX12_match_12 : decode cX12_match 12 = .ok (.bipush 13, 2) := by decide +kernel
theorem dX12_match_14 : decode cX12_match 14 = .ok (.invokestatic 173, 3) := by decide +kernel
theorem dX12_match_17 : decode cX12_match 17 = .ok (.ifCond .eq 22, 3) := by decide +kernel
theorem dX12_match_20 : decode cX12_match 20 = .ok (.iload_n 1, 1) := by decide +kernel
theorem dX12_match_21 : decode cX12_match 21 = .ok (.bipush 13, 2) := by decide +kernel
theorem dX12_match_23 : decode cX12_match 23 = .ok (.if_icmp .ne 9, 3) := by decide +kernel
theorem dX12_match_26 : decode cX12_match 26 = .ok (.iload_n 2, 1) := by decide +kernel
theorem dX12_match_27 : decode cX12_match 27 = .ok (.bipush 13, 2) := by decide +kernel
theorem dX12_match_29 : decode cX12_match 29 = .ok (.if_icmp .eq 10, 3) := by decide +kernel
theorem dX12_match_32 : decode cX12_match 32 = .ok (.iload_n 3, 1) := by decide +kernel
theorem dX12_match_33 : decode cX12_match 33 = .ok (.invokestatic 196, 3) := by decide +kernel
theorem dX12_match_36 : decode cX12_match 36 = .ok (.ifCond .ne 5, 3) := by decide +kernel
theorem dX12_match_39 : decode cX12_match 39 = .ok (.iconst (-1), 1) := by decide +kernel
theorem dX12_match_40 : decode cX12_match 40 = .ok (.ireturn, 1) := by decide +kernel
theorem dX12_match_41 : decode cX12_match 41 = .ok (.aload_n 0, 1) := by decide +kernel
theorem dX12_match_42 : decode cX12_match 42 = .ok (.invokevirtual 424, 3) := by decide +kernel
theorem dX12_match_45 : decode cX12_match 45 = .ok (.bipush 13, 2) := by decide +kernel
theorem dX12_match_47 : decode cX12_match 47 = .ok (.istore 4, 2) := by decide +kernel
theorem dX12_match_49 : decode cX12_match 49 = .ok (.iload 4, 2) := by decide +kernel
theorem dX12_match_51 : decode cX12_match 51 = .ok (.iload_n 1, 1) := by decide +kernel
theorem dX12_match_52 : decode cX12_match 52 = .ok (.if_icmp .lt 68, 3) := by decide +kernel
theorem dX12_match_55 : decode cX12_match 55 = .ok (.bipush 13, 2) := by decide +kernel
theorem dX12_match_57 : decode cX12_match 57 = .ok (.istore 5, 2) := by decide +kernel
theorem dX12_match_59 : decode cX12_match 59 = .ok (.iload 5, 2) := by decide +kernel
theorem dX12_match_61 : decode cX12_match 61 = .ok (.iload_n 2, 1) := by decide +kernel
theorem dX12_match_62 : decode cX12_match 62 = .ok (.if_icmp .lt 52, 3) := by decide +kernel
theorem dX12_match_65 : decode cX12_match 65 = .ok (.iconst 0, 1) := by decide +kernel
theorem dX12_match_66 : decode cX12_match 66 = .ok (.istore 6, 2) := by decide +kernel
theorem dX12_match_68 : decode cX12_match 68 = .ok (.iload 6, 2) := by decide +kernel
theorem dX12_match_70 : decode cX12_match 70 = .ok (.iconst 2, 1) := by decide +kernel
theorem dX12_match_71 : decode cX12_match 71 = .ok (.if_icmp .ge 37, 3) := by decide +kernel
theorem dX12_match_74 : decode cX12_match 74 = .ok (.aload_n 0, 1) := by decide +kernel
theorem dX12_match_75 : decode cX12_match 75 = .ok (.getfield 88, 3) := by decide +kernel
theorem dX12_match_78 : decode cX12_match 78 = .ok (.bipush 28, 2) := by decide +kernel
theorem dX12_match_80 : decode cX12_match 80 = .ok (.iload 4, 2) := by decide +kernel
theorem dX12_match_82 : decode cX12_match 82 = .ok (.imul, 1) := by decide +kernel
theorem dX12_match_83 : decode cX12_match 83 = .ok (.iconst 2, 1) := by decide +kernel
theorem dX12_match_84 : decode cX12_match 84 = .ok (.iload 5, 2) := by decide +kernel
theorem dX12_match_86 : decode cX12_match 86 = .ok (.imul, 1) := by decide +kernel
theorem dX12_match_87 : decode cX12_match 87 = .ok (.iadd, 1) := by decide +kernel
theorem dX12_match_88 : decode cX12_match 88 = .ok (.iload 6, 2) := by decide +kernel
theorem dX12_match_90 : decode cX12_match 90 = .ok (.iadd, 1) := by decide +kernel
theorem dX12_match_91 : decode cX12_match 91 = .ok (.aload_n 0, 1) := by decide +kernel
theorem dX12_match_92 : decode cX12_match 92 = .ok (.iload 4, 2) := by decide +kernel
theorem dX12_match_94 : decode cX12_match 94 = .ok (.iload 5, 2) := by decide +kernel
theorem dX12_match_96 : decode cX12_match 96 = .ok (.iload 6, 2) := by decide +kernel
theorem dX12_match_98 : decode cX12_match 98 = .ok (.invokevirtual 427, 3) := by decide +kernel
theorem dX12_match_101 : decode cX12_match 101 = .ok (.iastore, 1) := by decide +kernel
theorem dX12_match_102 : decode cX12_match 102 = .ok (.iinc 6 1, 3) := by decide +kernel
theorem dX12_match_105 : decode cX12_match 105 = .ok (.goto (-37), 3) := by decide +kernel
theorem dX12_match_108 : decode cX12_match 108 = .ok (.iinc 5 (-1), 3) := by decide +kernel
theorem dX12_match_111 : decode cX12_match 111 = .ok (.goto (-52), 3) := by decide +kernel
theorem dX12_match_114 : decode cX12_match 114 = .ok (.iinc 4 (-1), 3) := by decide +kernel
theorem dX12_match_117 : decode cX12_match 117 = .ok (.goto (-68), 3) := by decide +kernel
theorem dX12_match_120 : decode cX12_match 120 = .ok (.aload_n 0, 1) := by decide +kernel
theorem dX12_match_121 : decode cX12_match 121 = .ok (.getfield 88, 3) := by decide +kernel
theorem dX12_match_124 : decode cX12_match 124 = .ok (.bipush 28, 2) := by decide +kernel
theorem dX12_match_126 : decode cX12_match 126 = .ok (.iload_n 1, 1) := by decide +kernel
theorem dX12_match_127 : decode cX12_match 127 = .ok (.imul, 1) := by decide +kernel
theorem dX12_match_128 : decode cX12_match 128 = .ok (.iconst 2, 1) := by decide +kernel
theorem dX12_match_129 : decode cX12_match 129 = .ok (.iload_n 2, 1) := by decide +kernel
theorem dX12_match_130 : decode cX12_match 130 = .ok (.imul, 1) := by decide +kernel
theorem dX12_match_131 : decode cX12_match 131 = .ok (.iadd, 1) := by decide +kernel
theorem dX12_match_132 : decode cX12_match 132 = .ok (.iload_n 3, 1) := by decide +kernel
theorem dX12_match_133 : decode cX12_match 133 = .ok (.iadd, 1) := by decide +kernel
theorem dX12_match_134 : decode cX12_match 134 = .ok (.iaload, 1) := by decide +kernel
theorem dX12_match_135 : decode cX12_match 135 = .ok (.ireturn, 1) := by decide +kernel
theorem dX12_draws_0 : decode cX12_draws 0 = .ok (.aload_n 0, 1) := by decide +kernel
theorem dX12_draws_1 : decode cX12_draws 1 = .ok (.sipush 25173, 3) := by decide +kernel
theorem dX12_draws_4 : decode cX12_draws 4 = .ok (.aload_n 0, 1) := by decide +kernel
theorem dX12_draws_5 : decode cX12_draws 5 = .ok (.getfield 146, 3) := by decide +kernel
theorem dX12_draws_8 : decode cX12_draws 8 = .ok (.imul, 1) := by decide +kernel
theorem dX12_draws_9 : decode cX12_draws 9 = .ok (.sipush 13849, 3) := by decide +kernel
theorem dX12_draws_12 : decode cX12_draws 12 = .ok (.iadd, 1) := by decide +kernel
theorem dX12_draws_13 : decode cX12_draws 13 = .ok (.ldc_w 430, 3) := by decide +kernel
theorem dX12_draws_16 : decode cX12_draws 16 = .ok (.irem, 1) := by decide +kernel
theorem dX12_draws_17 : decode cX12_draws 17 = .ok (.putfield 146, 3) := by decide +kernel
theorem dX12_draws_20 : decode cX12_draws 20 = .ok (.aload_n 0, 1) := by decide +kernel
theorem dX12_draws_21 : decode cX12_draws 21 = .ok (.getfield 146, 3) := by decide +kernel
theorem dX12_draws_24 : decode cX12_draws 24 = .ok (.bipush 100, 2) := by decide +kernel
theorem dX12_draws_26 : decode cX12_draws 26 = .ok (.irem, 1) := by decide +kernel
theorem dX12_draws_27 : decode cX12_draws 27 = .ok (.ireturn, 1) := by decide +kernel
theorem dX12_comesOf_0 : decode cX12_comesOf 0 = .ok (.iconst 0, 1) := by decide +kernel
theorem dX12_comesOf_1 : decode cX12_comesOf 1 = .ok (.istore_n 2, 1) := by decide +kernel
theorem dX12_comesOf_2 : decode cX12_comesOf 2 = .ok (.iload_n 1, 1) := by decide +kernel
theorem dX12_comesOf_3 : decode cX12_comesOf 3 = .ok (.istore_n 3, 1) := by decide +kernel
theorem dX12_comesOf_4 : decode cX12_comesOf 4 = .ok (.iload_n 3, 1) := by decide +kernel
theorem dX12_comesOf_5 : decode cX12_comesOf 5 = .ok (.aload_n 0, 1) := by decide +kernel
theorem dX12_comesOf_6 : decode cX12_comesOf 6 = .ok (.getfield 65, 3) := by decide +kernel
theorem dX12_comesOf_9 : decode cX12_comesOf 9 = .ok (.iload_n 2, 1) := by decide +kernel
theorem dX12_comesOf_10 : decode cX12_comesOf 10 = .ok (.iaload, 1) := by decide +kernel
theorem dX12_comesOf_11 : decode cX12_comesOf 11 = .ok (.if_icmp .lt 19, 3) := by decide +kernel
theorem dX12_comesOf_14 : decode cX12_comesOf 14 = .ok (.iload_n 3, 1) := by decide +kernel
theorem dX12_comesOf_15 : decode cX12_comesOf 15 = .ok (.aload_n 0, 1) := by decide +kernel
theorem dX12_comesOf_16 : decode cX12_comesOf 16 = .ok (.getfield 65, 3) := by decide +kernel
theorem dX12_comesOf_19 : decode cX12_comesOf 19 = .ok (.iload_n 2, 1) := by decide +kernel
theorem dX12_comesOf_20 : decode cX12_comesOf 20 = .ok (.iaload, 1) := by decide +kernel
theorem dX12_comesOf_21 : decode cX12_comesOf 21 = .ok (.isub, 1) := by decide +kernel
theorem dX12_comesOf_22 : decode cX12_comesOf 22 = .ok (.istore_n 3, 1) := by decide +kernel
theorem dX12_comesOf_23 : decode cX12_comesOf 23 = .ok (.iload_n 2, 1) := by decide +kernel
theorem dX12_comesOf_24 : decode cX12_comesOf 24 = .ok (.iconst 1, 1) := by decide +kernel
theorem dX12_comesOf_25 : decode cX12_comesOf 25 = .ok (.iadd, 1) := by decide +kernel
theorem dX12_comesOf_26 : decode cX12_comesOf 26 = .ok (.istore_n 2, 1) := by decide +kernel
theorem dX12_comesOf_27 : decode cX12_comesOf 27 = .ok (.goto (-23), 3) := by decide +kernel
theorem dX12_comesOf_30 : decode cX12_comesOf 30 = .ok (.iload_n 2, 1) := by decide +kernel
theorem dX12_comesOf_31 : decode cX12_comesOf 31 = .ok (.ireturn, 1) := by decide +kernel
theorem dX12_drawn_0 : decode cX12_drawn 0 = .ok (.aload_n 0, 1) := by decide +kernel
theorem dX12_drawn_1 : decode cX12_drawn 1 = .ok (.iload_n 3, 1) := by decide +kernel
theorem dX12_drawn_2 : decode cX12_drawn 2 = .ok (.iload 4, 2) := by decide +kernel
theorem dX12_drawn_4 : decode cX12_drawn 4 = .ok (.iload 5, 2) := by decide +kernel
theorem dX12_drawn_6 : decode cX12_drawn 6 = .ok (.invokevirtual 203, 3) := by decide +kernel
theorem dX12_drawn_9 : decode cX12_drawn 9 = .ok (.istore 6, 2) := by decide +kernel
theorem dX12_drawn_11 : decode cX12_drawn 11 = .ok (.aload_n 0, 1) := by decide +kernel
theorem dX12_drawn_12 : decode cX12_drawn 12 = .ok (.iload_n 1, 1) := by decide +kernel
theorem dX12_drawn_13 : decode cX12_drawn 13 = .ok (.invokevirtual 404, 3) := by decide +kernel
theorem dX12_drawn_16 : decode cX12_drawn 16 = .ok (.ifCond .eq 17, 3) := by decide +kernel
theorem dX12_drawn_19 : decode cX12_drawn 19 = .ok (.aload_n 0, 1) := by decide +kernel
theorem dX12_drawn_20 : decode cX12_drawn 20 = .ok (.iload_n 2, 1) := by decide +kernel
theorem dX12_drawn_21 : decode cX12_drawn 21 = .ok (.invokevirtual 404, 3) := by decide +kernel
theorem dX12_drawn_24 : decode cX12_drawn 24 = .ok (.ifCond .eq 9, 3) := by decide +kernel
theorem dX12_drawn_27 : decode cX12_drawn 27 = .ok (.iload 6, 2) := by decide +kernel
theorem dX12_drawn_29 : decode cX12_drawn 29 = .ok (.iconst (-1), 1) := by decide +kernel
theorem dX12_drawn_30 : decode cX12_drawn 30 = .ok (.if_icmp .ne 6, 3) := by decide +kernel
theorem dX12_drawn_33 : decode cX12_drawn 33 = .ok (.bipush (-100), 2) := by decide +kernel
theorem dX12_drawn_35 : decode cX12_drawn 35 = .ok (.ireturn, 1) := by decide +kernel
theorem dX12_drawn_36 : decode cX12_drawn 36 = .ok (.aload_n 0, 1) := by decide +kernel
theorem dX12_drawn_37 : decode cX12_drawn 37 = .ok (.aload_n 0, 1) := by decide +kernel
theorem dX12_drawn_38 : decode cX12_drawn 38 = .ok (.getfield 139, 3) := by decide +kernel
theorem dX12_drawn_41 : decode cX12_drawn 41 = .ok (.putfield 143, 3) := by decide +kernel
theorem dX12_drawn_44 : decode cX12_drawn 44 = .ok (.aload_n 0, 1) := by decide +kernel
theorem dX12_drawn_45 : decode cX12_drawn 45 = .ok (.iconst 0, 1) := by decide +kernel
theorem dX12_drawn_46 : decode cX12_drawn 46 = .ok (.iload_n 1, 1) := by decide +kernel
theorem dX12_drawn_47 : decode cX12_drawn 47 = .ok (.iload_n 2, 1) := by decide +kernel
theorem dX12_drawn_48 : decode cX12_drawn 48 = .ok (.invokevirtual 385, 3) := by decide +kernel
theorem dX12_drawn_51 : decode cX12_drawn 51 = .ok (.aload_n 0, 1) := by decide +kernel
theorem dX12_drawn_52 : decode cX12_drawn 52 = .ok (.iconst 0, 1) := by decide +kernel
theorem dX12_drawn_53 : decode cX12_drawn 53 = .ok (.putfield 155, 3) := by decide +kernel
theorem dX12_drawn_56 : decode cX12_drawn 56 = .ok (.aload_n 0, 1) := by decide +kernel
theorem dX12_drawn_57 : decode cX12_drawn 57 = .ok (.getfield 91, 3) := by decide +kernel
theorem dX12_drawn_60 : decode cX12_drawn 60 = .ok (.iconst 0, 1) := by decide +kernel
theorem dX12_drawn_61 : decode cX12_drawn 61 = .ok (.iload 6, 2) := by decide +kernel
theorem dX12_drawn_63 : decode cX12_drawn 63 = .ok (.iastore, 1) := by decide +kernel
theorem dX12_drawn_64 : decode cX12_drawn 64 = .ok (.aload_n 0, 1) := by decide +kernel
theorem dX12_drawn_65 : decode cX12_drawn 65 = .ok (.iload 6, 2) := by decide +kernel
theorem dX12_drawn_67 : decode cX12_drawn 67 = .ok (.invokevirtual 206, 3) := by decide +kernel
theorem dX12_drawn_70 : decode cX12_drawn 70 = .ok (.iconst 2, 1) := by decide +kernel
theorem dX12_drawn_71 : decode cX12_drawn 71 = .ok (.if_icmp .ge 84, 3) := by decide +kernel
theorem dX12_drawn_74 : decode cX12_drawn 74 = .ok (.aload_n 0, 1) := by decide +kernel
theorem dX12_drawn_75 : decode cX12_drawn 75 = .ok (.iload 6, 2) := by decide +kernel
theorem dX12_drawn_77 : decode cX12_drawn 77 = .ok (.invokevirtual 206, 3) := by decide +kernel
theorem dX12_drawn_80 : decode cX12_drawn 80 = .ok (.istore 7, 2) := by decide +kernel
theorem dX12_drawn_82 : decode cX12_drawn 82 = .ok (.aload_n 0, 1) := by decide +kernel
theorem dX12_drawn_83 : decode cX12_drawn 83 = .ok (.getfield 94, 3) := by decide +kernel
theorem dX12_drawn_86 : decode cX12_drawn 86 = .ok (.aload_n 0, 1) := by decide +kernel
theorem dX12_drawn_87 : decode cX12_drawn 87 = .ok (.getfield 155, 3) := by decide +kernel
theorem dX12_drawn_90 : decode cX12_drawn 90 = .ok (.aload_n 0, 1) := by decide +kernel
theorem dX12_drawn_91 : decode cX12_drawn 91 = .ok (.getfield 79, 3) := by decide +kernel
theorem dX12_drawn_94 : decode cX12_drawn 94 = .ok (.iload 6, 2) := by decide +kernel
theorem dX12_drawn_96 : decode cX12_drawn 96 = .ok (.baload, 1) := by decide +kernel
theorem dX12_drawn_97 : decode cX12_drawn 97 = .ok (.iastore, 1) := by decide +kernel
theorem dX12_drawn_98 : decode cX12_drawn 98 = .ok (.aload_n 0, 1) := by decide +kernel
theorem dX12_drawn_99 : decode cX12_drawn 99 = .ok (.iload 6, 2) := by decide +kernel
theorem dX12_drawn_101 : decode cX12_drawn 101 = .ok (.iload 7, 2) := by decide +kernel
theorem dX12_drawn_103 : decode cX12_drawn 103 = .ok (.aload_n 0, 1) := by decide +kernel
theorem dX12_drawn_104 : decode cX12_drawn 104 = .ok (.getfield 79, 3) := by decide +kernel
theorem dX12_drawn_107 : decode cX12_drawn 107 = .ok (.iload 6, 2) := by decide +kernel
theorem dX12_drawn_109 : decode cX12_drawn 109 = .ok (.baload, 1) := by decide +kernel
theorem dX12_drawn_110 : decode cX12_drawn 110 = .ok (.invokevirtual 347, 3) := by decide +kernel
theorem dX12_drawn_113 : decode cX12_drawn 113 = .ok (.aload_n 0, 1) := by decide +kernel
theorem dX12_drawn_114 : decode cX12_drawn 114 = .ok (.iload 6, 2) := by decide +kernel
theorem dX12_drawn_116 : decode cX12_drawn 116 = .ok (.iload 7, 2) := by decide +kernel
theorem dX12_drawn_118 : decode cX12_drawn 118 = .ok (.aload_n 0, 1) := by decide +kernel
theorem dX12_drawn_119 : decode cX12_drawn 119 = .ok (.aload_n 0, 1) := by decide +kernel
theorem dX12_drawn_120 : decode cX12_drawn 120 = .ok (.invokevirtual 431, 3) := by decide +kernel
theorem dX12_drawn_123 : decode cX12_drawn 123 = .ok (.invokevirtual 434, 3) := by decide +kernel
theorem dX12_drawn_126 : decode cX12_drawn 126 = .ok (.invokevirtual 350, 3) := by decide +kernel
theorem dX12_drawn_129 : decode cX12_drawn 129 = .ok (.istore 6, 2) := by decide +kernel
theorem dX12_drawn_131 : decode cX12_drawn 131 = .ok (.aload_n 0, 1) := by decide +kernel
theorem dX12_drawn_132 : decode cX12_drawn 132 = .ok (.aload_n 0, 1) := by decide +kernel
theorem dX12_drawn_133 : decode cX12_drawn 133 = .ok (.getfield 155, 3) := by decide +kernel
theorem dX12_drawn_136 : decode cX12_drawn 136 = .ok (.iconst 1, 1) := by decide +kernel
theorem dX12_drawn_137 : decode cX12_drawn 137 = .ok (.iadd, 1) := by decide +kernel
theorem dX12_drawn_138 : decode cX12_drawn 138 = .ok (.putfield 155, 3) := by decide +kernel
theorem dX12_drawn_141 : decode cX12_drawn 141 = .ok (.aload_n 0, 1) := by decide +kernel
theorem dX12_drawn_142 : decode cX12_drawn 142 = .ok (.getfield 91, 3) := by decide +kernel
theorem dX12_drawn_145 : decode cX12_drawn 145 = .ok (.aload_n 0, 1) := by decide +kernel
theorem dX12_drawn_146 : decode cX12_drawn 146 = .ok (.getfield 155, 3) := by decide +kernel
theorem dX12_drawn_149 : decode cX12_drawn 149 = .ok (.iload 6, 2) := by decide +kernel
theorem dX12_drawn_151 : decode cX12_drawn 151 = .ok (.iastore, 1) := by decide +kernel
theorem dX12_drawn_152 : decode cX12_drawn 152 = .ok (.goto (-88), 3) := by decide +kernel
theorem dX12_drawn_155 : decode cX12_drawn 155 = .ok (.aload_n 0, 1) := by decide +kernel
theorem dX12_drawn_156 : decode cX12_drawn 156 = .ok (.iload 6, 2) := by decide +kernel
theorem dX12_drawn_158 : decode cX12_drawn 158 = .ok (.iconst 0, 1) := by decide +kernel
theorem dX12_drawn_159 : decode cX12_drawn 159 = .ok (.invokestatic 181, 3) := by decide +kernel
theorem dX12_drawn_162 : decode cX12_drawn 162 = .ok (.iload 6, 2) := by decide +kernel
theorem dX12_drawn_164 : decode cX12_drawn 164 = .ok (.iconst 1, 1) := by decide +kernel
theorem dX12_drawn_165 : decode cX12_drawn 165 = .ok (.invokestatic 181, 3) := by decide +kernel
theorem dX12_drawn_168 : decode cX12_drawn 168 = .ok (.invokevirtual 209, 3) := by decide +kernel
theorem dX12_drawn_171 : decode cX12_drawn 171 = .ok (.ireturn, 1) := by decide +kernel
theorem dX12_log_0 : decode cX12_log 0 = .ok (.aload_n 0, 1) := by decide +kernel
theorem dX12_log_1 : decode cX12_log 1 = .ok (.getfield 155, 3) := by decide +kernel
theorem dX12_log_4 : decode cX12_log 4 = .ok (.iconst (-1), 1) := by decide +kernel
theorem dX12_log_5 : decode cX12_log 5 = .ok (.if_icmp .ne 5, 3) := by decide +kernel
theorem dX12_log_8 : decode cX12_log 8 = .ok (.iconst (-1), 1) := by decide +kernel
theorem dX12_log_9 : decode cX12_log 9 = .ok (.ireturn, 1) := by decide +kernel
theorem dX12_log_10 : decode cX12_log 10 = .ok (.iload_n 1, 1) := by decide +kernel
theorem dX12_log_11 : decode cX12_log 11 = .ok (.ifCond .ne 8, 3) := by decide +kernel
theorem dX12_log_14 : decode cX12_log 14 = .ok (.aload_n 0, 1) := by decide +kernel
theorem dX12_log_15 : decode cX12_log 15 = .ok (.getfield 155, 3) := by decide +kernel
theorem dX12_log_18 : decode cX12_log 18 = .ok (.ireturn, 1) := by decide +kernel
theorem dX12_log_19 : decode cX12_log 19 = .ok (.iload_n 1, 1) := by decide +kernel
theorem dX12_log_20 : decode cX12_log 20 = .ok (.bipush 10, 2) := by decide +kernel
theorem dX12_log_22 : decode cX12_log 22 = .ok (.bipush 9, 2) := by decide +kernel
theorem dX12_log_24 : decode cX12_log 24 = .ok (.aload_n 0, 1) := by decide +kernel
theorem dX12_log_25 : decode cX12_log 25 = .ok (.getfield 155, 3) := by decide +kernel
theorem dX12_log_28 : decode cX12_log 28 = .ok (.iadd, 1) := by decide +kernel
theorem dX12_log_29 : decode cX12_log 29 = .ok (.invokestatic 173, 3) := by decide +kernel
theorem dX12_log_32 : decode cX12_log 32 = .ok (.ifCond .eq 13, 3) := by decide +kernel
theorem dX12_log_35 : decode cX12_log 35 = .ok (.aload_n 0, 1) := by decide +kernel
theorem dX12_log_36 : decode cX12_log 36 = .ok (.getfield 94, 3) := by decide +kernel
theorem dX12_log_39 : decode cX12_log 39 = .ok (.iload_n 1, 1) := by decide +kernel
theorem dX12_log_40 : decode cX12_log 40 = .ok (.bipush 10, 2) := by decide +kernel
theorem dX12_log_42 : decode cX12_log 42 = .ok (.isub, 1) := by decide +kernel
theorem dX12_log_43 : decode cX12_log 43 = .ok (.iaload, 1) := by decide +kernel
theorem dX12_log_44 : decode cX12_log 44 = .ok (.ireturn, 1) := by decide +kernel
theorem dX12_log_45 : decode cX12_log 45 = .ok (.iload_n 1, 1) := by decide +kernel
theorem dX12_log_46 : decode cX12_log 46 = .ok (.bipush 20, 2) := by decide +kernel
theorem dX12_log_48 : decode cX12_log 48 = .ok (.bipush 19, 2) := by decide +kernel
theorem dX12_log_50 : decode cX12_log 50 = .ok (.aload_n 0, 1) := by decide +kernel
theorem dX12_log_51 : decode cX12_log 51 = .ok (.getfield 155, 3) := by decide +kernel
theorem dX12_log_54 : decode cX12_log 54 = .ok (.iadd, 1) := by decide +kernel
theorem dX12_log_55 : decode cX12_log 55 = .ok (.invokestatic 173, 3) := by decide +kernel
theorem dX12_log_58 : decode cX12_log 58 = .ok (.ifCond .eq 17, 3) := by decide +kernel
theorem dX12_log_61 : decode cX12_log 61 = .ok (.aload_n 0, 1) := by decide +kernel
theorem dX12_log_62 : decode cX12_log 62 = .ok (.aload_n 0, 1) := by decide +kernel
theorem dX12_log_63 : decode cX12_log 63 = .ok (.getfield 91, 3) := by decide +kernel
theorem dX12_log_66 : decode cX12_log 66 = .ok (.iload_n 1, 1) := by decide +kernel
theorem dX12_log_67 : decode cX12_log 67 = .ok (.bipush 20, 2) := by decide +kernel
theorem dX12_log_69 : decode cX12_log 69 = .ok (.isub, 1) := by decide +kernel
theorem dX12_log_70 : decode cX12_log 70 = .ok (.iaload, 1) := by decide +kernel
theorem dX12_log_71 : decode cX12_log 71 = .ok (.invokevirtual 206, 3) := by decide +kernel
theorem dX12_log_74 : decode cX12_log 74 = .ok (.ireturn, 1) := by decide +kernel
theorem dX12_log_75 : decode cX12_log 75 = .ok (.iload_n 1, 1) := by decide +kernel
theorem dX12_log_76 : decode cX12_log 76 = .ok (.bipush 30, 2) := by decide +kernel
theorem dX12_log_78 : decode cX12_log 78 = .ok (.bipush 30, 2) := by decide +kernel
theorem dX12_log_80 : decode cX12_log 80 = .ok (.aload_n 0, 1) := by decide +kernel
theorem dX12_log_81 : decode cX12_log 81 = .ok (.getfield 155, 3) := by decide +kernel
theorem dX12_log_84 : decode cX12_log 84 = .ok (.iadd, 1) := by decide +kernel
theorem dX12_log_85 : decode cX12_log 85 = .ok (.invokestatic 173, 3) := by decide +kernel
theorem dX12_log_88 : decode cX12_log 88 = .ok (.ifCond .eq 22, 3) := by decide +kernel
theorem dX12_log_91 : decode cX12_log 91 = .ok (.aload_n 0, 1) := by decide +kernel
theorem dX12_log_92 : decode cX12_log 92 = .ok (.getfield 7, 3) := by decide +kernel
theorem dX12_log_95 : decode cX12_log 95 = .ok (.aload_n 0, 1) := by decide +kernel
theorem dX12_log_96 : decode cX12_log 96 = .ok (.getfield 91, 3) := by decide +kernel
