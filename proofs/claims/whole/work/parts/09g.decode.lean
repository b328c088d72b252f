theorem dX12_log_99 : decode cX12_log 99 = .ok (.iload_n 1, 1) := by decide +kernel
theorem dX12_log_100 : decode cX12_log 100 = .ok (.bipush 30, 2) := by decide +kernel
theorem dX12_log_102 : decode cX12_log 102 = .ok (.isub, 1) := by decide +kernel
theorem dX12_log_103 : decode cX12_log 103 = .ok (.iaload, 1) := by decide +kernel
theorem dX12_log_104 : decode cX12_log 104 = .ok (.iconst 0, 1) := by decide +kernel
theorem dX12_log_105 : decode cX12_log 105 = .ok (.invokestatic 181, 3) := by decide +kernel
theorem dX12_log_108 : decode cX12_log 108 = .ok (.iaload, 1) := by decide +kernel
theorem dX12_log_109 : decode cX12_log 109 = .ok (.ireturn, 1) := by decide +kernel
theorem dX12_log_110 : decode cX12_log 110 = .ok (.iload_n 1, 1) := by decide +kernel
theorem dX12_log_111 : decode cX12_log 111 = .ok (.bipush 40, 2) := by decide +kernel
theorem dX12_log_113 : decode cX12_log 113 = .ok (.bipush 40, 2) := by decide +kernel
theorem dX12_log_115 : decode cX12_log 115 = .ok (.aload_n 0, 1) := by decide +kernel
theorem dX12_log_116 : decode cX12_log 116 = .ok (.getfield 155, 3) := by decide +kernel
theorem dX12_log_119 : decode cX12_log 119 = .ok (.iadd, 1) := by decide +kernel
theorem dX12_log_120 : decode cX12_log 120 = .ok (.invokestatic 173, 3) := by decide +kernel
theorem dX12_log_123 : decode cX12_log 123 = .ok (.ifCond .eq 24, 3) := by decide +kernel
theorem dX12_log_126 : decode cX12_log 126 = .ok (.aload_n 0, 1) := by decide +kernel
theorem dX12_log_127 : decode cX12_log 127 = .ok (.getfield 7, 3) := by decide +kernel
theorem dX12_log_130 : decode cX12_log 130 = .ok (.aload_n 0, 1) := by decide +kernel
theorem dX12_log_131 : decode cX12_log 131 = .ok (.getfield 91, 3) := by decide +kernel
theorem dX12_log_134 : decode cX12_log 134 = .ok (.iload_n 1, 1) := by decide +kernel
theorem dX12_log_135 : decode cX12_log 135 = .ok (.bipush 40, 2) := by decide +kernel
theorem dX12_log_137 : decode cX12_log 137 = .ok (.isub, 1) := by decide +kernel
theorem dX12_log_138 : decode cX12_log 138 = .ok (.iaload, 1) := by decide +kernel
theorem dX12_log_139 : decode cX12_log 139 = .ok (.iconst 1, 1) := by decide +kernel
theorem dX12_log_140 : decode cX12_log 140 = .ok (.invokestatic 181, 3) := by decide +kernel
theorem dX12_log_143 : decode cX12_log 143 = .ok (.iaload, 1) := by decide +kernel
theorem dX12_log_144 : decode cX12_log 144 = .ok (.goto 4, 3) := by decide +kernel
theorem dX12_log_147 : decode cX12_log 147 = .ok (.iconst (-1), 1) := by decide +kernel
theorem dX12_log_148 : decode cX12_log 148 = .ok (.ireturn, 1) := by decide +kernel
theorem dX12_wrongIn_0 : decode cX12_wrongIn 0 = .ok (.aload_n 0, 1) := by decide +kernel
theorem dX12_wrongIn_1 : decode cX12_wrongIn 1 = .ok (.aload_n 0, 1) := by decide +kernel
theorem dX12_wrongIn_2 : decode cX12_wrongIn 2 = .ok (.getfield 91, 3) := by decide +kernel
theorem dX12_wrongIn_5 : decode cX12_wrongIn 5 = .ok (.iload_n 1, 1) := by decide +kernel
theorem dX12_wrongIn_6 : decode cX12_wrongIn 6 = .ok (.iaload, 1) := by decide +kernel
theorem dX12_wrongIn_7 : decode cX12_wrongIn 7 = .ok (.invokevirtual 206, 3) := by decide +kernel
theorem dX12_wrongIn_10 : decode cX12_wrongIn 10 = .ok (.istore_n 2, 1) := by decide +kernel
theorem dX12_wrongIn_11 : decode cX12_wrongIn 11 = .ok (.aload_n 0, 1) := by decide +kernel
theorem dX12_wrongIn_12 : decode cX12_wrongIn 12 = .ok (.aload_n 0, 1) := by decide +kernel
theorem dX12_wrongIn_13 : decode cX12_wrongIn 13 = .ok (.getfield 91, 3) := by decide +kernel
theorem dX12_wrongIn_16 : decode cX12_wrongIn 16 = .ok (.iload_n 1, 1) := by decide +kernel
theorem dX12_wrongIn_17 : decode cX12_wrongIn 17 = .ok (.iaload, 1) := by decide +kernel
theorem dX12_wrongIn_18 : decode cX12_wrongIn 18 = .ok (.iload_n 2, 1) := by decide +kernel
theorem dX12_wrongIn_19 : decode cX12_wrongIn 19 = .ok (.aload_n 0, 1) := by decide +kernel
theorem dX12_wrongIn_20 : decode cX12_wrongIn 20 = .ok (.getfield 94, 3) := by decide +kernel
theorem dX12_wrongIn_23 : decode cX12_wrongIn 23 = .ok (.iload_n 1, 1) := by decide +kernel
theorem dX12_wrongIn_24 : decode cX12_wrongIn 24 = .ok (.iaload, 1) := by decide +kernel
theorem dX12_wrongIn_25 : decode cX12_wrongIn 25 = .ok (.aload_n 0, 1) := by decide +kernel
theorem dX12_wrongIn_26 : decode cX12_wrongIn 26 = .ok (.getfield 72, 3) := by decide +kernel
theorem dX12_wrongIn_29 : decode cX12_wrongIn 29 = .ok (.invokevirtual 369, 3) := by decide +kernel
theorem dX12_wrongIn_32 : decode cX12_wrongIn 32 = .ok (.lstore_n 3, 1) := by decide +kernel
theorem dX12_wrongIn_33 : decode cX12_wrongIn 33 = .ok (.iload_n 2, 1) := by decide +kernel
theorem dX12_wrongIn_34 : decode cX12_wrongIn 34 = .ok (.ifCond .ne 19, 3) := by decide +kernel
theorem dX12_wrongIn_37 : decode cX12_wrongIn 37 = .ok (.aload_n 0, 1) := by decide +kernel
theorem dX12_wrongIn_38 : decode cX12_wrongIn 38 = .ok (.getfield 72, 3) := by decide +kernel
theorem dX12_wrongIn_41 : decode cX12_wrongIn 41 = .ok (.aload_n 0, 1) := by decide +kernel
theorem dX12_wrongIn_42 : decode cX12_wrongIn 42 = .ok (.getfield 91, 3) := by decide +kernel
theorem dX12_wrongIn_45 : decode cX12_wrongIn 45 = .ok (.iload_n 1, 1) := by decide +kernel
theorem dX12_wrongIn_46 : decode cX12_wrongIn 46 = .ok (.iaload, 1) := by decide +kernel
theorem dX12_wrongIn_47 : decode cX12_wrongIn 47 = .ok (.laload, 1) := by decide +kernel
theorem dX12_wrongIn_48 : decode cX12_wrongIn 48 = .ok (.lload_n 3, 1) := by decide +kernel
theorem dX12_wrongIn_49 : decode cX12_wrongIn 49 = .ok (.lsub, 1) := by decide +kernel
theorem dX12_wrongIn_50 : decode cX12_wrongIn 50 = .ok (.goto 16, 3) := by decide +kernel
theorem dX12_wrongIn_53 : decode cX12_wrongIn 53 = .ok (.lload_n 3, 1) := by decide +kernel
theorem dX12_wrongIn_54 : decode cX12_wrongIn 54 = .ok (.aload_n 0, 1) := by decide +kernel
theorem dX12_wrongIn_55 : decode cX12_wrongIn 55 = .ok (.getfield 72, 3) := by decide +kernel
theorem dX12_wrongIn_58 : decode cX12_wrongIn 58 = .ok (.aload_n 0, 1) := by decide +kernel
theorem dX12_wrongIn_59 : decode cX12_wrongIn 59 = .ok (.getfield 91, 3) := by decide +kernel
theorem dX12_wrongIn_62 : decode cX12_wrongIn 62 = .ok (.iload_n 1, 1) := by decide +kernel
theorem dX12_wrongIn_63 : decode cX12_wrongIn 63 = .ok (.iaload, 1) := by decide +kernel
theorem dX12_wrongIn_64 : decode cX12_wrongIn 64 = .ok (.laload, 1) := by decide +kernel
theorem dX12_wrongIn_65 : decode cX12_wrongIn 65 = .ok (.lsub, 1) := by decide +kernel
theorem dX12_wrongIn_66 : decode cX12_wrongIn 66 = .ok (.lstore 5, 2) := by decide +kernel
theorem dX12_wrongIn_68 : decode cX12_wrongIn 68 = .ok (.iconst 0, 1) := by decide +kernel
theorem dX12_wrongIn_69 : decode cX12_wrongIn 69 = .ok (.istore 7, 2) := by decide +kernel
theorem dX12_wrongIn_71 : decode cX12_wrongIn 71 = .ok (.iload 7, 2) := by decide +kernel
theorem dX12_wrongIn_73 : decode cX12_wrongIn 73 = .ok (.iload_n 1, 1) := by decide +kernel
theorem dX12_wrongIn_74 : decode cX12_wrongIn 74 = .ok (.if_icmp .ge 17, 3) := by decide +kernel
theorem dX12_wrongIn_77 : decode cX12_wrongIn 77 = .ok (.lload 5, 2) := by decide +kernel
theorem dX12_wrongIn_79 : decode cX12_wrongIn 79 = .ok (.ldc2_w 437, 3) := by decide +kernel
theorem dX12_wrongIn_82 : decode cX12_wrongIn 82 = .ok (.lmul, 1) := by decide +kernel
theorem dX12_wrongIn_83 : decode cX12_wrongIn 83 = .ok (.lstore 5, 2) := by decide +kernel
theorem dX12_wrongIn_85 : decode cX12_wrongIn 85 = .ok (.iinc 7 1, 3) := by decide +kernel
theorem dX12_wrongIn_88 : decode cX12_wrongIn 88 = .ok (.goto (-17), 3) := by decide +kernel
theorem dX12_wrongIn_91 : decode cX12_wrongIn 91 = .ok (.lload 5, 2) := by decide +kernel
theorem dX12_wrongIn_93 : decode cX12_wrongIn 93 = .ok (.lreturn, 1) := by decide +kernel
theorem dX12_wrong_0 : decode cX12_wrong 0 = .ok (.iload_n 2, 1) := by decide +kernel
theorem dX12_wrong_1 : decode cX12_wrong 1 = .ok (.iconst 0, 1) := by decide +kernel
theorem dX12_wrong_2 : decode cX12_wrong 2 = .ok (.iconst 2, 1) := by decide +kernel
theorem dX12_wrong_3 : decode cX12_wrong 3 = .ok (.invokestatic 173, 3) := by decide +kernel
theorem dX12_wrong_6 : decode cX12_wrong 6 = .ok (.ifCond .eq 29, 3) := by decide +kernel
theorem dX12_wrong_9 : decode cX12_wrong 9 = .ok (.aload_n 0, 1) := by decide +kernel
theorem dX12_wrong_10 : decode cX12_wrong 10 = .ok (.getfield 155, 3) := by decide +kernel
theorem dX12_wrong_13 : decode cX12_wrong 13 = .ok (.iconst 1, 1) := by decide +kernel
theorem dX12_wrong_14 : decode cX12_wrong 14 = .ok (.if_icmp .lt 21, 3) := by decide +kernel
theorem dX12_wrong_17 : decode cX12_wrong 17 = .ok (.iload_n 2, 1) := by decide +kernel
theorem dX12_wrong_18 : decode cX12_wrong 18 = .ok (.ifCond .ne 21, 3) := by decide +kernel
theorem dX12_wrong_21 : decode cX12_wrong 21 = .ok (.iload_n 1, 1) := by decide +kernel
theorem dX12_wrong_22 : decode cX12_wrong 22 = .ok (.iconst 0, 1) := by decide +kernel
theorem dX12_wrong_23 : decode cX12_wrong 23 = .ok (.aload_n 0, 1) := by decide +kernel
theorem dX12_wrong_24 : decode cX12_wrong 24 = .ok (.getfield 155, 3) := by decide +kernel
theorem dX12_wrong_27 : decode cX12_wrong 27 = .ok (.iconst 1, 1) := by decide +kernel
theorem dX12_wrong_28 : decode cX12_wrong 28 = .ok (.isub, 1) := by decide +kernel
theorem dX12_wrong_29 : decode cX12_wrong 29 = .ok (.invokestatic 173, 3) := by decide +kernel
theorem dX12_wrong_32 : decode cX12_wrong 32 = .ok (.ifCond .ne 7, 3) := by decide +kernel
theorem dX12_wrong_35 : decode cX12_wrong 35 = .ok (.ldc2_w 393, 3) := by decide +kernel
theorem dX12_wrong_38 : decode cX12_wrong 38 = .ok (.lreturn, 1) := by decide +kernel
theorem dX12_wrong_39 : decode cX12_wrong 39 = .ok (.aload_n 0, 1) := by decide +kernel
theorem dX12_wrong_40 : decode cX12_wrong 40 = .ok (.invokevirtual 390, 3) := by decide +kernel
theorem dX12_wrong_43 : decode cX12_wrong 43 = .ok (.iload_n 2, 1) := by decide +kernel
theorem dX12_wrong_44 : decode cX12_wrong 44 = .ok (.ifCond .ne 9, 3) := by decide +kernel
theorem dX12_wrong_47 : decode cX12_wrong 47 = .ok (.aload_n 0, 1) := by decide +kernel
theorem dX12_wrong_48 : decode cX12_wrong 48 = .ok (.iload_n 1, 1) := by decide +kernel
theorem dX12_wrong_49 : decode cX12_wrong 49 = .ok (.invokevirtual 439, 3) := by decide +kernel
theorem dX12_wrong_52 : decode cX12_wrong 52 = .ok (.lreturn, 1) := by decide +kernel
theorem dX12_wrong_53 : decode cX12_wrong 53 = .ok (.iconst 0, 1) := by decide +kernel
theorem dX12_wrong_54 : decode cX12_wrong 54 = .ok (.istore_n 3, 1) := by decide +kernel
theorem dX12_wrong_55 : decode cX12_wrong 55 = .ok (.iconst 1, 1) := by decide +kernel
theorem dX12_wrong_56 : decode cX12_wrong 56 = .ok (.istore 4, 2) := by decide +kernel
theorem dX12_wrong_58 : decode cX12_wrong 58 = .ok (.iload 4, 2) := by decide +kernel
theorem dX12_wrong_60 : decode cX12_wrong 60 = .ok (.aload_n 0, 1) := by decide +kernel
theorem dX12_wrong_61 : decode cX12_wrong 61 = .ok (.getfield 155, 3) := by decide +kernel
theorem dX12_wrong_64 : decode cX12_wrong 64 = .ok (.if_icmp .ge 27, 3) := by decide +kernel
theorem dX12_wrong_67 : decode cX12_wrong 67 = .ok (.aload_n 0, 1) := by decide +kernel
theorem dX12_wrong_68 : decode cX12_wrong 68 = .ok (.iload 4, 2) := by decide +kernel
theorem dX12_wrong_70 : decode cX12_wrong 70 = .ok (.invokevirtual 439, 3) := by decide +kernel
theorem dX12_wrong_73 : decode cX12_wrong 73 = .ok (.aload_n 0, 1) := by decide +kernel
theorem dX12_wrong_74 : decode cX12_wrong 74 = .ok (.iload_n 3, 1) := by decide +kernel
theorem dX12_wrong_75 : decode cX12_wrong 75 = .ok (.invokevirtual 439, 3) := by decide +kernel
theorem dX12_wrong_78 : decode cX12_wrong 78 = .ok (.lcmp, 1) := by decide +kernel
theorem dX12_wrong_79 : decode cX12_wrong 79 = .ok (.ifCond .le 6, 3) := by decide +kernel
theorem dX12_wrong_82 : decode cX12_wrong 82 = .ok (.iload 4, 2) := by decide +kernel
theorem dX12_wrong_84 : decode cX12_wrong 84 = .ok (.istore_n 3, 1) := by decide +kernel
theorem dX12_wrong_85 : decode cX12_wrong 85 = .ok (.iinc 4 1, 3) := by decide +kernel
theorem dX12_wrong_88 : decode cX12_wrong 88 = .ok (.goto (-30), 3) := by decide +kernel
theorem dX12_wrong_91 : decode cX12_wrong 91 = .ok (.iload_n 2, 1) := by decide +kernel
theorem dX12_wrong_92 : decode cX12_wrong 92 = .ok (.iconst 1, 1) := by decide +kernel
theorem dX12_wrong_93 : decode cX12_wrong 93 = .ok (.if_icmp .ne 8, 3) := by decide +kernel
theorem dX12_wrong_96 : decode cX12_wrong 96 = .ok (.iload_n 3, 1) := by decide +kernel
theorem dX12_wrong_97 : decode cX12_wrong 97 = .ok (.i2l, 1) := by decide +kernel
theorem dX12_wrong_98 : decode cX12_wrong 98 = .ok (.goto 8, 3) := by decide +kernel
theorem dX12_wrong_101 : decode cX12_wrong 101 = .ok (.aload_n 0, 1) := by decide +kernel
theorem dX12_wrong_102 : decode cX12_wrong 102 = .ok (.iload_n 3, 1) := by decide +kernel
theorem dX12_wrong_103 : decode cX12_wrong 103 = .ok (.invokevirtual 439, 3) := by decide +kernel
theorem dX12_wrong_106 : decode cX12_wrong 106 = .ok (.lreturn, 1) := by decide +kernel
theorem dX12_shotsAll_0 : decode cX12_shotsAll 0 = .ok (.iconst 0, 1) := by decide +kernel
theorem dX12_shotsAll_1 : decode cX12_shotsAll 1 = .ok (.istore_n 1, 1) := by decide +kernel
theorem dX12_shotsAll_2 : decode cX12_shotsAll 2 = .ok (.iconst 0, 1) := by decide +kernel
theorem dX12_shotsAll_3 : decode cX12_shotsAll 3 = .ok (.istore_n 2, 1) := by decide +kernel
theorem dX12_shotsAll_4 : decode cX12_shotsAll 4 = .ok (.iload_n 2, 1) := by decide +kernel
theorem dX12_shotsAll_5 : decode cX12_shotsAll 5 = .ok (.iconst 5, 1) := by decide +kernel
theorem dX12_shotsAll_6 : decode cX12_shotsAll 6 = .ok (.if_icmp .ge 18, 3) := by decide +kernel
theorem dX12_shotsAll_9 : decode cX12_shotsAll 9 = .ok (.iload_n 1, 1) := by decide +kernel
theorem dX12_shotsAll_10 : decode cX12_shotsAll 10 = .ok (.aload_n 0, 1) := by decide +kernel
theorem dX12_shotsAll_11 : decode cX12_shotsAll 11 = .ok (.getfield 97, 3) := by decide +kernel
theorem dX12_shotsAll_14 : decode cX12_shotsAll 14 = .ok (.iload_n 2, 1) := by decide +kernel
theorem dX12_shotsAll_15 : decode cX12_shotsAll 15 = .ok (.iaload, 1) := by decide +kernel
theorem dX12_shotsAll_16 : decode cX12_shotsAll 16 = .ok (.iadd, 1) := by decide +kernel
theorem dX12_shotsAll_17 : decode cX12_shotsAll 17 = .ok (.istore_n 1, 1) := by decide +kernel
theorem dX12_shotsAll_18 : decode cX12_shotsAll 18 = .ok (.iinc 2 1, 3) := by decide +kernel
theorem dX12_shotsAll_21 : decode cX12_shotsAll 21 = .ok (.goto (-17), 3) := by decide +kernel
theorem dX12_shotsAll_24 : decode cX12_shotsAll 24 = .ok (.iload_n 1, 1) := by decide +kernel
theorem dX12_shotsAll_25 : decode cX12_shotsAll 25 = .ok (.ireturn, 1) := by decide +kernel
theorem dX12_shot_0 : decode cX12_shot 0 = .ok (.iload_n 1, 1) := by decide +kernel
theorem dX12_shot_1 : decode cX12_shot 1 = .ok (.bipush 6, 2) := by decide +kernel
theorem dX12_shot_3 : decode cX12_shot 3 = .ok (.bipush 10, 2) := by decide +kernel
theorem dX12_shot_5 : decode cX12_shot 5 = .ok (.invokestatic 173, 3) := by decide +kernel
theorem dX12_shot_8 : decode cX12_shot 8 = .ok (.ifCond .eq 12, 3) := by decide +kernel
theorem dX12_shot_11 : decode cX12_shot 11 = .ok (.aload_n 0, 1) := by decide +kernel
theorem dX12_shot_12 : decode cX12_shot 12 = .ok (.invokevirtual 442, 3) := by decide +kernel
theorem dX12_shot_15 : decode cX12_shot 15 = .ok (.bipush 60, 2) := by decide +kernel
theorem dX12_shot_17 : decode cX12_shot 17 = .ok (.if_icmp .ne 5, 3) := by decide +kernel
theorem dX12_shot_20 : decode cX12_shot 20 = .ok (.iconst (-1), 1) := by decide +kernel
theorem dX12_shot_21 : decode cX12_shot 21 = .ok (.ireturn, 1) := by decide +kernel
theorem dX12_shot_22 : decode cX12_shot 22 = .ok (.aload_n 0, 1) := by decide +kernel
theorem dX12_shot_23 : decode cX12_shot 23 = .ok (.getfield 97, 3) := by decide +kernel
theorem dX12_shot_26 : decode cX12_shot 26 = .ok (.iload_n 1, 1) := by decide +kernel
theorem dX12_shot_27 : decode cX12_shot 27 = .ok (.bipush 6, 2) := by decide +kernel
theorem dX12_shot_29 : decode cX12_shot 29 = .ok (.isub, 1) := by decide +kernel
theorem dX12_shot_30 : decode cX12_shot 30 = .ok (.aload_n 0, 1) := by decide +kernel
theorem dX12_shot_31 : decode cX12_shot 31 = .ok (.getfield 97, 3) := by decide +kernel
theorem dX12_shot_34 : decode cX12_shot 34 = .ok (.iload_n 1, 1) := by decide +kernel
theorem dX12_shot_35 : decode cX12_shot 35 = .ok (.bipush 6, 2) := by decide +kernel
theorem dX12_shot_37 : decode cX12_shot 37 = .ok (.isub, 1) := by decide +kernel
theorem dX12_shot_38 : decode cX12_shot 38 = .ok (.iaload, 1) := by decide +kernel
theorem dX12_shot_39 : decode cX12_shot 39 = .ok (.iconst 1, 1) := by decide +kernel
theorem dX12_shot_40 : decode cX12_shot 40 = .ok (.iadd, 1) := by decide +kernel
theorem dX12_shot_41 : decode cX12_shot 41 = .ok (.iastore, 1) := by decide +kernel
theorem dX12_shot_42 : decode cX12_shot 42 = .ok (.iload_n 2, 1) := by decide +kernel
theorem dX12_shot_43 : decode cX12_shot 43 = .ok (.ifCond .eq 23, 3) := by decide +kernel
theorem dX12_shot_46 : decode cX12_shot 46 = .ok (.aload_n 0, 1) := by decide +kernel
theorem dX12_shot_47 : decode cX12_shot 47 = .ok (.getfield 100, 3) := by decide +kernel
theorem dX12_shot_50 : decode cX12_shot 50 = .ok (.iload_n 1, 1) := by decide +kernel
theorem dX12_shot_51 : decode cX12_shot 51 = .ok (.bipush 6, 2) := by decide +kernel
theorem dX12_shot_53 : decode cX12_shot 53 = .ok (.isub, 1) := by decide +kernel
theorem dX12_shot_54 : decode cX12_shot 54 = .ok (.aload_n 0, 1) := by decide +kernel
theorem dX12_shot_55 : decode cX12_shot 55 = .ok (.getfield 100, 3) := by decide +kernel
theorem dX12_shot_58 : decode cX12_shot 58 = .ok (.iload_n 1, 1) := by decide +kernel
theorem dX12_shot_59 : decode cX12_shot 59 = .ok (.bipush 6, 2) := by decide +kernel
theorem dX12_shot_61 : decode cX12_shot 61 = .ok (.isub, 1) := by decide +kernel
theorem dX12_shot_62 : decode cX12_shot 62 = .ok (.iaload, 1) := by decide +kernel
theorem dX12_shot_63 : decode cX12_shot 63 = .ok (.iconst 1, 1) := by decide +kernel
theorem dX12_shot_64 : decode cX12_shot 64 = .ok (.iadd, 1) := by decide +kernel
theorem dX12_shot_65 : decode cX12_shot 65 = .ok (.iastore, 1) := by decide +kernel
theorem dX12_shot_66 : decode cX12_shot 66 = .ok (.aload_n 0, 1) := by decide +kernel
theorem dX12_shot_67 : decode cX12_shot 67 = .ok (.invokevirtual 442, 3) := by decide +kernel
theorem dX12_shot_70 : decode cX12_shot 70 = .ok (.ireturn, 1) := by decide +kernel
theorem dX12_book_0 : decode cX12_book 0 = .ok (.iload_n 1, 1) := by decide +kernel
theorem dX12_book_1 : decode cX12_book 1 = .ok (.ifCond .ne 8, 3) := by decide +kernel
theorem dX12_book_4 : decode cX12_book 4 = .ok (.aload_n 0, 1) := by decide +kernel
theorem dX12_book_5 : decode cX12_book 5 = .ok (.invokevirtual 442, 3) := by decide +kernel
theorem dX12_book_8 : decode cX12_book 8 = .ok (.ireturn, 1) := by decide +kernel
theorem dX12_book_9 : decode cX12_book 9 = .ok (.iload_n 1, 1) := by decide +kernel
theorem dX12_book_10 : decode cX12_book 10 = .ok (.iconst 1, 1) := by decide +kernel
theorem dX12_book_11 : decode cX12_book 11 = .ok (.if_icmp .ne 38, 3) := by decide +kernel
theorem dX12_book_14 : decode cX12_book 14 = .ok (.aload_n 0, 1) := by decide +kernel
theorem dX12_book_15 : decode cX12_book 15 = .ok (.getfield 100, 3) := by decide +kernel
theorem dX12_book_18 : decode cX12_book 18 = .ok (.iconst 0, 1) := by decide +kernel
theorem dX12_book_19 : decode cX12_book 19 = .ok (.iaload, 1) := by decide +kernel
theorem dX12_book_20 : decode cX12_book 20 = .ok (.aload_n 0, 1) := by decide +kernel
theorem dX12_book_21 : decode cX12_book 21 = .ok (.getfield 100, 3) := by decide +kernel
theorem dX12_book_24 : decode cX12_book 24 = .ok (.iconst 1, 1) := by decide +kernel
theorem dX12_book_25 : decode cX12_book 25 = .ok (.iaload, 1) := by decide +kernel
theorem dX12_book_26 : decode cX12_book 26 = .ok (.iadd, 1) := by decide +kernel
theorem dX12_book_27 : decode cX12_book 27 = .ok (.aload_n 0, 1) := by decide +kernel
theorem dX12_book_28 : decode cX12_book 28 = .ok (.getfield 100, 3) := by decide +kernel
theorem dX12_book_31 : decode cX12_book 31 = .ok (.iconst 2, 1) := by decide +kernel
theorem dX12_book_32 : decode cX12_book 32 = .ok (.iaload, 1) := by decide +kernel
theorem dX12_book_33 : decode cX12_book 33 = .ok (.iadd, 1) := by decide +kernel
theorem dX12_book_34 : decode cX12_book 34 = .ok (.aload_n 0, 1) := by decide +kernel
theorem dX12_book_35 : decode cX12_book 35 = .ok (.getfield 100, 3) := by decide +kernel
theorem dX12_book_38 : decode cX12_book 38 = .ok (.iconst 3, 1) := by decide +kernel
theorem dX12_book_39 : decode cX12_book 39 = .ok (.iaload, 1) := by decide +kernel
theorem dX12_book_40 : decode cX12_book 40 = .ok (.iadd, 1) := by decide +kernel
theorem dX12_book_41 : decode cX12_book 41 = .ok (.aload_n 0, 1) := by decide +kernel
theorem dX12_book_42 : decode cX12_book 42 = .ok (.getfield 100, 3) := by decide +kernel
theorem dX12_book_45 : decode cX12_book 45 = .ok (.iconst 4, 1) := by decide +kernel
theorem dX12_book_46 : decode cX12_book 46 = .ok (.iaload, 1) := by decide +kernel
theorem dX12_book_47 : decode cX12_book 47 = .ok (.iadd, 1) := by decide +kernel
theorem dX12_book_48 : decode cX12_book 48 = .ok (.ireturn, 1) := by decide +kernel
theorem dX12_book_49 : decode cX12_book 49 = .ok (.iload_n 1, 1) := by decide +kernel
theorem dX12_book_50 : decode cX12_book 50 = .ok (.bipush 16, 2) := by decide +kernel
theorem dX12_book_52 : decode cX12_book 52 = .ok (.bipush 20, 2) := by decide +kernel
theorem dX12_book_54 : decode cX12_book 54 = .ok (.invokestatic 173, 3) := by decide +kernel
theorem dX12_book_57 : decode cX12_book 57 = .ok (.ifCond .eq 13, 3) := by decide +kernel
theorem dX12_book_60 : decode cX12_book 60 = .ok (.aload_n 0, 1) := by decide +kernel
theorem dX12_book_61 : decode cX12_book 61 = .ok (.getfield 97, 3) := by decide +kernel
theorem dX12_book_64 : decode cX12_book 64 = .ok (.iload_n 1, 1) := by decide +kernel
theorem dX12_book_65 : decode cX12_book 65 = .ok (.bipush 16, 2) := by decide +kernel
theorem dX12_book_67 : decode cX12_book 67 = .ok (.isub, 1) := by decide +kernel
theorem dX12_book_68 : decode cX12_book 68 = .ok (.iaload, 1) := by decide +kernel
theorem dX12_book_69 : decode cX12_book 69 = .ok (.ireturn, 1) := by decide +kernel
theorem dX12_book_70 : decode cX12_book 70 = .ok (.iload_n 1, 1) := by decide +kernel
theorem dX12_book_71 : decode cX12_book 71 = .ok (.bipush 26, 2) := by decide +kernel
theorem dX12_book_73 : decode cX12_book 73 = .ok (.bipush 30, 2) := by decide +kernel
theorem dX12_book_75 : decode cX12_book 75 = .ok (.invokestatic 173, 3) := by decide +kernel
theorem dX12_book_78 : decode cX12_book 78 = .ok (.ifCond .eq 15, 3) := by decide +kernel
theorem dX12_book_81 : decode cX12_book 81 = .ok (.aload_n 0, 1) := by decide +kernel
theorem dX12_book_82 : decode cX12_book 82 = .ok (.getfield 100, 3) := by decide +kernel
theorem dX12_book_85 : decode cX12_book 85 = .ok (.iload_n 1, 1) := by decide +kernel
theorem dX12_book_86 : decode cX12_book 86 = .ok (.bipush 26, 2) := by decide +kernel
theorem dX12_book_88 : decode cX12_book 88 = .ok (.isub, 1) := by decide +kernel
theorem dX12_book_89 : decode cX12_book 89 = .ok (.iaload, 1) := by decide +kernel
theorem dX12_book_90 : decode cX12_book 90 = .ok (.goto 4, 3) := by decide +kernel
theorem dX12_book_93 : decode cX12_book 93 = .ok (.iconst (-1), 1) := by decide +kernel
theorem dX12_book_94 : decode cX12_book 94 = .ok (.ireturn, 1) := by decide +kernel
theorem dX12_multiplies_0 : decode cX12_multiplies 0 = .ok (.iconst 0, 1) := by decide +kernel
theorem dX12_multiplies_1 : decode cX12_multiplies 1 = .ok (.istore_n 3, 1) := by decide +kernel
theorem dX12_multiplies_2 : decode cX12_multiplies 2 = .ok (.iload_n 3, 1) := by decide +kernel
theorem dX12_multiplies_3 : decode cX12_multiplies 3 = .ok (.iload_n 2, 1) := by decide +kernel
theorem dX12_multiplies_4 : decode cX12_multiplies 4 = .ok (.if_icmp .ge 55, 3) := by decide +kernel
theorem dX12_multiplies_7 : decode cX12_multiplies 7 = .ok (.iconst 0, 1) := by decide +kernel
theorem dX12_multiplies_8 : decode cX12_multiplies 8 = .ok (.istore 4, 2) := by decide +kernel
theorem dX12_multiplies_10 : decode cX12_multiplies 10 = .ok (.iconst 0, 1) := by decide +kernel
theorem dX12_multiplies_11 : decode cX12_multiplies 11 = .ok (.istore 5, 2) := by decide +kernel
theorem dX12_multiplies_13 : decode cX12_multiplies 13 = .ok (.iload 5, 2) := by decide +kernel
theorem dX12_multiplies_15 : decode cX12_multiplies 15 = .ok (.bipush 64, 2) := by decide +kernel
theorem dX12_multiplies_17 : decode cX12_multiplies 17 = .ok (.if_icmp .ge 36, 3) := by decide +kernel
theorem dX12_multiplies_20 : decode cX12_multiplies 20 = .ok (.aload_n 0, 1) := by decide +kernel
theorem dX12_multiplies_21 : decode cX12_multiplies 21 = .ok (.iload 5, 2) := by decide +kernel
theorem dX12_multiplies_23 : decode cX12_multiplies 23 = .ok (.iaload, 1) := by decide +kernel
theorem dX12_multiplies_24 : decode cX12_multiplies 24 = .ok (.iload_n 1, 1) := by decide +kernel
theorem dX12_multiplies_25 : decode cX12_multiplies 25 = .ok (.imul, 1) := by decide +kernel
theorem dX12_multiplies_26 : decode cX12_multiplies 26 = .ok (.iload 4, 2) := by decide +kernel
theorem dX12_multiplies_28 : decode cX12_multiplies 28 = .ok (.iadd, 1) := by decide +kernel
theorem dX12_multiplies_29 : decode cX12_multiplies 29 = .ok (.istore 6, 2) := by decide +kernel
theorem dX12_multiplies_31 : decode cX12_multiplies 31 = .ok (.aload_n 0, 1) := by decide +kernel
theorem dX12_multiplies_32 : decode cX12_multiplies 32 = .ok (.iload 5, 2) := by decide +kernel
theorem dX12_multiplies_34 : decode cX12_multiplies 34 = .ok (.iload 6, 2) := by decide +kernel
theorem dX12_multiplies_36 : decode cX12_multiplies 36 = .ok (.bipush 10, 2) := by decide +kernel
theorem dX12_multiplies_38 : decode cX12_multiplies 38 = .ok (.irem, 1) := by decide +kernel
theorem dX12_multiplies_39 : decode cX12_multiplies 39 = .ok (.iastore, 1) := by decide +kernel
theorem dX12_multiplies_40 : decode cX12_multiplies 40 = .ok (.iload 6, 2) := by decide +kernel
theorem dX12_multiplies_42 : decode cX12_multiplies 42 = .ok (.bipush 10, 2) := by decide +kernel
theorem dX12_multiplies_44 : decode cX12_multiplies 44 = .ok (.idiv, 1) := by decide +kernel
theorem dX12_multiplies_45 : decode cX12_multiplies 45 = .ok (.istore 4, 2) := by decide +kernel
theorem dX12_multiplies_47 : decode cX12_multiplies 47 = .ok (.iinc 5 1, 3) := by decide +kernel
theorem dX12_multiplies_50 : decode cX12_multiplies 50 = .ok (.goto (-37), 3) := by decide +kernel
theorem dX12_multiplies_53 : decode cX12_multiplies 53 = .ok (.iinc 3 1, 3) := by decide +kernel
theorem dX12_multiplies_56 : decode cX12_multiplies 56 = .ok (.goto (-54), 3) := by decide +kernel
theorem dX12_multiplies_59 : decode cX12_multiplies 59 = .ok (.return_, 1) := by decide +kernel
theorem dX12_products_0 : decode cX12_products 0 = .ok (.iconst 0, 1) := by decide +kernel
theorem dX12_products_1 : decode cX12_products 1 = .ok (.istore 4, 2) := by decide +kernel
theorem dX12_products_3 : decode cX12_products 3 = .ok (.iload 4, 2) := by decide +kernel
theorem dX12_products_5 : decode cX12_products 5 = .ok (.bipush 64, 2) := by decide +kernel
theorem dX12_products_7 : decode cX12_products 7 = .ok (.if_icmp .ge 23, 3) := by decide +kernel
theorem dX12_products_10 : decode cX12_products 10 = .ok (.aload_n 1, 1) := by decide +kernel
theorem dX12_products_11 : decode cX12_products 11 = .ok (.iload 4, 2) := by decide +kernel
theorem dX12_products_13 : decode cX12_products 13 = .ok (.iload 4, 2) := by decide +kernel
theorem dX12_products_15 : decode cX12_products 15 = .ok (.ifCond .ne 7, 3) := by decide +kernel
theorem dX12_products_18 : decode cX12_products 18 = .ok (.iconst 1, 1) := by decide +kernel
theorem dX12_products_19 : decode cX12_products 19 = .ok (.goto 4, 3) := by decide +kernel
theorem dX12_products_22 : decode cX12_products 22 = .ok (.iconst 0, 1) := by decide +kernel
theorem dX12_products_23 : decode cX12_products 23 = .ok (.iastore, 1) := by decide +kernel
theorem dX12_products_24 : decode cX12_products 24 = .ok (.iinc 4 1, 3) := by decide +kernel
theorem dX12_products_27 : decode cX12_products 27 = .ok (.goto (-24), 3) := by decide +kernel
theorem dX12_products_30 : decode cX12_products 30 = .ok (.iconst 0, 1) := by decide +kernel
theorem dX12_products_31 : decode cX12_products 31 = .ok (.istore 4, 2) := by decide +kernel
theorem dX12_products_33 : decode cX12_products 33 = .ok (.iload 4, 2) := by decide +kernel
theorem dX12_products_35 : decode cX12_products 35 = .ok (.iconst 5, 1) := by decide +kernel
theorem dX12_products_36 : decode cX12_products 36 = .ok (.if_icmp .ge 58, 3) := by decide +kernel
theorem dX12_products_39 : decode cX12_products 39 = .ok (.iconst 0, 1) := by decide +kernel
theorem dX12_products_40 : decode cX12_products 40 = .ok (.iload_n 2, 1) := by decide +kernel
theorem dX12_products_41 : decode cX12_products 41 = .ok (.iload_n 3, 1) := by decide +kernel
theorem dX12_products_42 : decode cX12_products 42 = .ok (.iload 4, 2) := by decide +kernel
theorem dX12_products_44 : decode cX12_products 44 = .ok (.imul, 1) := by decide +kernel
theorem dX12_products_45 : decode cX12_products 45 = .ok (.isub, 1) := by decide +kernel
theorem dX12_products_46 : decode cX12_products 46 = .ok (.invokestatic 445, 3) := by decide +kernel
theorem dX12_products_49 : decode cX12_products 49 = .ok (.istore 5, 2) := by decide +kernel
theorem dX12_products_51 : decode cX12_products 51 = .ok (.aload_n 1, 1) := by decide +kernel
theorem dX12_products_52 : decode cX12_products 52 = .ok (.iload 5, 2) := by decide +kernel
theorem dX12_products_54 : decode cX12_products 54 = .ok (.aload_n 0, 1) := by decide +kernel
theorem dX12_products_55 : decode cX12_products 55 = .ok (.getfield 100, 3) := by decide +kernel
theorem dX12_products_58 : decode cX12_products 58 = .ok (.iload 4, 2) := by decide +kernel
theorem dX12_products_60 : decode cX12_products 60 = .ok (.iaload, 1) := by decide +kernel
theorem dX12_products_61 : decode cX12_products 61 = .ok (.invokestatic 448, 3) := by decide +kernel
theorem dX12_products_64 : decode cX12_products 64 = .ok (.aload_n 1, 1) := by decide +kernel
theorem dX12_products_65 : decode cX12_products 65 = .ok (.bipush 10, 2) := by decide +kernel
theorem dX12_products_67 : decode cX12_products 67 = .ok (.iload 5, 2) := by decide +kernel
theorem dX12_products_69 : decode cX12_products 69 = .ok (.isub, 1) := by decide +kernel
theorem dX12_products_70 : decode cX12_products 70 = .ok (.aload_n 0, 1) := by decide +kernel
theorem dX12_products_71 : decode cX12_products 71 = .ok (.getfield 97, 3) := by decide +kernel
theorem dX12_products_74 : decode cX12_products 74 = .ok (.iload 4, 2) := by decide +kernel
theorem dX12_products_76 : decode cX12_products 76 = .ok (.iaload, 1) := by decide +kernel
theorem dX12_products_77 : decode cX12_products 77 = .ok (.aload_n 0, 1) := by decide +kernel
theorem dX12_products_78 : decode cX12_products 78 = .ok (.getfield 100, 3) := by decide +kernel
theorem dX12_products_81 : decode cX12_products 81 = .ok (.iload 4, 2) := by decide +kernel
theorem dX12_products_83 : decode cX12_products 83 = .ok (.iaload, 1) := by decide +kernel
theorem dX12_products_84 : decode cX12_products 84 = .ok (.isub, 1) := by decide +kernel
theorem dX12_products_85 : decode cX12_products 85 = .ok (.invokestatic 448, 3) := by decide +kernel
theorem dX12_products_88 : decode cX12_products 88 = .ok (.iinc 4 1, 3) := by decide +kernel
theorem dX12_products_91 : decode cX12_products 91 = .ok (.goto (-58), 3) := by decide +kernel
theorem dX12_products_94 : decode cX12_products 94 = .ok (.return_, 1) := by decide +kernel
theorem dX12_fits_0 : decode cX12_fits 0 = .ok (.iload_n 1, 1) := by decide +kernel
theorem dX12_fits_1 : decode cX12_fits 1 = .ok (.iconst 0, 1) := by decide +kernel
theorem dX12_fits_2 : decode cX12_fits 2 = .ok (.bipush 10, 2) := by decide +kernel
theorem dX12_fits_4 : decode cX12_fits 4 = .ok (.invokestatic 173, 3) := by decide +kernel
theorem dX12_fits_7 : decode cX12_fits 7 = .ok (.ifCond .eq 32, 3) := by decide +kernel
theorem dX12_fits_10 : decode cX12_fits 10 = .ok (.iload_n 2, 1) := by decide +kernel
theorem dX12_fits_11 : decode cX12_fits 11 = .ok (.iconst 0, 1) := by decide +kernel
theorem dX12_fits_12 : decode cX12_fits 12 = .ok (.iconst 3, 1) := by decide +kernel
theorem dX12_fits_13 : decode cX12_fits 13 = .ok (.invokestatic 173, 3) := by decide +kernel
theorem dX12_fits_16 : decode cX12_fits 16 = .ok (.ifCond .eq 23, 3) := by decide +kernel
theorem dX12_fits_19 : decode cX12_fits 19 = .ok (.iload_n 3, 1) := by decide +kernel
theorem dX12_fits_20 : decode cX12_fits 20 = .ok (.iconst 0, 1) := by decide +kernel
theorem dX12_fits_21 : decode cX12_fits 21 = .ok (.bipush 10, 2) := by decide +kernel
theorem dX12_fits_23 : decode cX12_fits 23 = .ok (.invokestatic 173, 3) := by decide +kernel
theorem dX12_fits_26 : decode cX12_fits 26 = .ok (.ifCond .eq 13, 3) := by decide +kernel
theorem dX12_fits_29 : decode cX12_fits 29 = .ok (.iload 4, 2) := by decide +kernel
theorem dX12_fits_31 : decode cX12_fits 31 = .ok (.iconst 0, 1) := by decide +kernel
theorem dX12_fits_32 : decode cX12_fits 32 = .ok (.iconst 3, 1) := by decide +kernel
theorem dX12_fits_33 : decode cX12_fits 33 = .ok (.invokestatic 173, 3) := by decide +kernel
theorem dX12_fits_36 : decode cX12_fits 36 = .ok (.ifCond .ne 5, 3) := by decide +kernel
theorem dX12_fits_39 : decode cX12_fits 39 = .ok (.iconst (-1), 1) := by decide +kernel
theorem dX12_fits_40 : decode cX12_fits 40 = .ok (.ireturn, 1) := by decide +kernel
theorem dX12_fits_41 : decode cX12_fits 41 = .ok (.aload_n 0, 1) := by decide +kernel
theorem dX12_fits_42 : decode cX12_fits 42 = .ok (.aload_n 0, 1) := by decide +kernel
theorem dX12_fits_43 : decode cX12_fits 43 = .ok (.getfield 103, 3) := by decide +kernel
theorem dX12_fits_46 : decode cX12_fits 46 = .ok (.iload_n 1, 1) := by decide +kernel
theorem dX12_fits_47 : decode cX12_fits 47 = .ok (.iload_n 2, 1) := by decide +kernel
theorem dX12_fits_48 : decode cX12_fits 48 = .ok (.invokevirtual 452, 3) := by decide +kernel
theorem dX12_fits_51 : decode cX12_fits 51 = .ok (.aload_n 0, 1) := by decide +kernel
theorem dX12_fits_52 : decode cX12_fits 52 = .ok (.aload_n 0, 1) := by decide +kernel
theorem dX12_fits_53 : decode cX12_fits 53 = .ok (.getfield 106, 3) := by decide +kernel
theorem dX12_fits_56 : decode cX12_fits 56 = .ok (.iload_n 3, 1) := by decide +kernel
theorem dX12_fits_57 : decode cX12_fits 57 = .ok (.iload 4, 2) := by decide +kernel
theorem dX12_fits_59 : decode cX12_fits 59 = .ok (.invokevirtual 452, 3) := by decide +kernel
theorem dX12_fits_62 : decode cX12_fits 62 = .ok (.bipush 63, 2) := by decide +kernel
theorem dX12_fits_64 : decode cX12_fits 64 = .ok (.istore 5, 2) := by decide +kernel
theorem dX12_fits_66 : decode cX12_fits 66 = .ok (.iload 5, 2) := by decide +kernel
theorem dX12_fits_68 : decode cX12_fits 68 = .ok (.ifCond .lt 49, 3) := by decide +kernel
theorem dX12_fits_71 : decode cX12_fits 71 = .ok (.aload_n 0, 1) := by decide +kernel
theorem dX12_fits_72 : decode cX12_fits 72 = .ok (.getfield 103, 3) := by decide +kernel
theorem dX12_fits_75 : decode cX12_fits 75 = .ok (.iload 5, 2) := by decide +kernel
theorem dX12_fits_77 : decode cX12_fits 77 = .ok (.iaload, 1) := by decide +kernel
theorem dX12_fits_78 : decode cX12_fits 78 = .ok (.aload_n 0, 1) := by decide +kernel
theorem dX12_fits_79 : decode cX12_fits 79 = .ok (.getfield 106, 3) := by decide +kernel
theorem dX12_fits_82 : decode cX12_fits 82 = .ok (.iload 5, 2) := by decide +kernel
theorem dX12_fits_84 : decode cX12_fits 84 = .ok (.iaload, 1) := by decide +kernel
theorem dX12_fits_85 : decode cX12_fits 85 = .ok (.if_icmp .eq 26, 3) := by decide +kernel
theorem dX12_fits_88 : decode cX12_fits 88 = .ok (.aload_n 0, 1) := by decide +kernel
theorem dX12_fits_89 : decode cX12_fits 89 = .ok (.getfield 103, 3) := by decide +kernel
theorem dX12_fits_92 : decode cX12_fits 92 = .ok (.iload 5, 2) := by decide +kernel
theorem dX12_fits_94 : decode cX12_fits 94 = .ok (.iaload, 1) := by decide +kernel
theorem dX12_fits_95 : decode cX12_fits 95 = .ok (.aload_n 0, 1) := by decide +kernel
theorem dX12_fits_96 : decode cX12_fits 96 = .ok (.getfield 106, 3) := by decide +kernel
theorem dX12_fits_99 : decode cX12_fits 99 = .ok (.iload 5, 2) := by decide +kernel
theorem dX12_fits_101 : decode cX12_fits 101 = .ok (.iaload, 1) := by decide +kernel
theorem dX12_fits_102 : decode cX12_fits 102 = .ok (.if_icmp .le 7, 3) := by decide +kernel
theorem dX12_fits_105 : decode cX12_fits 105 = .ok (.iconst 1, 1) := by decide +kernel
theorem dX12_fits_106 : decode cX12_fits 106 = .ok (.goto 4, 3) := by decide +kernel
theorem dX12_fits_109 : decode cX12_fits 109 = .ok (.iconst 2, 1) := by decide +kernel
theorem dX12_fits_110 : decode cX12_fits 110 = .ok (.ireturn, 1) := by decide +kernel
theorem dX12_fits_111 : decode cX12_fits 111 = .ok (.iinc 5 (-1), 3) := by decide +kernel
theorem dX12_fits_114 : decode cX12_fits 114 = .ok (.goto (-48), 3) := by decide +kernel
theorem dX12_fits_117 : decode cX12_fits 117 = .ok (.iconst 0, 1) := by decide +kernel
theorem dX12_fits_118 : decode cX12_fits 118 = .ok (.ireturn, 1) := by decide +kernel
theorem dX12_readsHeights_0 : decode cX12_readsHeights 0 = .ok (.iconst 0, 1) := by decide +kernel
theorem dX12_readsHeights_1 : decode cX12_readsHeights 1 = .ok (.istore_n 2, 1) := by decide +kernel
theorem dX12_readsHeights_2 : decode cX12_readsHeights 2 = .ok (.iload_n 2, 1) := by decide +kernel
theorem dX12_readsHeights_3 : decode cX12_readsHeights 3 = .ok (.bipush 8, 2) := by decide +kernel
theorem dX12_readsHeights_5 : decode cX12_readsHeights 5 = .ok (.if_icmp .ge 128, 3) := by decide +kernel
theorem dX12_readsHeights_8 : decode cX12_readsHeights 8 = .ok (.iconst 1, 1) := by decide +kernel
theorem dX12_readsHeights_9 : decode cX12_readsHeights 9 = .ok (.istore_n 3, 1) := by decide +kernel
theorem dX12_readsHeights_10 : decode cX12_readsHeights 10 = .ok (.aload_n 0, 1) := by decide +kernel
theorem dX12_readsHeights_11 : decode cX12_readsHeights 11 = .ok (.invokevirtual 225, 3) := by decide +kernel
theorem dX12_readsHeights_14 : decode cX12_readsHeights 14 = .ok (.bipush 97, 2) := by decide +kernel
theorem dX12_readsHeights_16 : decode cX12_readsHeights 16 = .ok (.bipush 104, 2) := by decide +kernel
theorem dX12_readsHeights_18 : decode cX12_readsHeights 18 = .ok (.invokestatic 173, 3) := by decide +kernel
theorem dX12_readsHeights_21 : decode cX12_readsHeights 21 = .ok (.ifCond .eq 42, 3) := by decide +kernel
theorem dX12_readsHeights_24 : decode cX12_readsHeights 24 = .ok (.aload_n 0, 1) := by decide +kernel
theorem dX12_readsHeights_25 : decode cX12_readsHeights 25 = .ok (.invokevirtual 225, 3) := by decide +kernel
theorem dX12_readsHeights_28 : decode cX12_readsHeights 28 = .ok (.bipush 97, 2) := by decide +kernel
theorem dX12_readsHeights_30 : decode cX12_readsHeights 30 = .ok (.isub, 1) := by decide +kernel
theorem dX12_readsHeights_31 : decode cX12_readsHeights 31 = .ok (.iconst 1, 1) := by decide +kernel
theorem dX12_readsHeights_32 : decode cX12_readsHeights 32 = .ok (.iadd, 1) := by decide +kernel
theorem dX12_readsHeights_33 : decode cX12_readsHeights 33 = .ok (.istore_n 3, 1) := by decide +kernel
theorem dX12_readsHeights_34 : decode cX12_readsHeights 34 = .ok (.iload_n 2, 1) := by decide +kernel
theorem dX12_readsHeights_35 : decode cX12_readsHeights 35 = .ok (.iload_n 3, 1) := by decide +kernel
theorem dX12_readsHeights_36 : decode cX12_readsHeights 36 = .ok (.iadd, 1) := by decide +kernel
theorem dX12_readsHeights_37 : decode cX12_readsHeights 37 = .ok (.bipush 8, 2) := by decide +kernel
theorem dX12_readsHeights_39 : decode cX12_readsHeights 39 = .ok (.if_icmp .le 14, 3) := by decide +kernel
theorem dX12_readsHeights_42 : decode cX12_readsHeights 42 = .ok (.aload_n 0, 1) := by decide +kernel
theorem dX12_readsHeights_43 : decode cX12_readsHeights 43 = .ok (.bipush 6, 2) := by decide +kernel
theorem dX12_readsHeights_45 : decode cX12_readsHeights 45 = .ok (.aload_n 0, 1) := by decide +kernel
theorem dX12_readsHeights_46 : decode cX12_readsHeights 46 = .ok (.getfield 219, 3) := by decide +kernel
theorem dX12_readsHeights_49 : decode cX12_readsHeights 49 = .ok (.invokevirtual 232, 3) := by decide +kernel
theorem dX12_readsHeights_52 : decode cX12_readsHeights 52 = .ok (.ireturn, 1) := by decide +kernel
theorem dX12_readsHeights_53 : decode cX12_readsHeights 53 = .ok (.aload_n 0, 1) := by decide +kernel
theorem dX12_readsHeights_54 : decode cX12_readsHeights 54 = .ok (.aload_n 0, 1) := by decide +kernel
theorem dX12_readsHeights_55 : decode cX12_readsHeights 55 = .ok (.getfield 219, 3) := by decide +kernel
theorem dX12_readsHeights_58 : decode cX12_readsHeights 58 = .ok (.iconst 1, 1) := by decide +kernel
theorem dX12_readsHeights_59 : decode cX12_readsHeights 59 = .ok (.iadd, 1) := by decide +kernel
theorem dX12_readsHeights_60 : decode cX12_readsHeights 60 = .ok (.putfield 219, 3) := by decide +kernel
theorem dX12_readsHeights_63 : decode cX12_readsHeights 63 = .ok (.aload_n 0, 1) := by decide +kernel
theorem dX12_readsHeights_64 : decode cX12_readsHeights 64 = .ok (.invokevirtual 239, 3) := by decide +kernel
theorem dX12_readsHeights_67 : decode cX12_readsHeights 67 = .ok (.ifCond .ne 13, 3) := by decide +kernel
theorem dX12_readsHeights_70 : decode cX12_readsHeights 70 = .ok (.aload_n 0, 1) := by decide +kernel
theorem dX12_readsHeights_71 : decode cX12_readsHeights 71 = .ok (.iconst 1, 1) := by decide +kernel
theorem dX12_readsHeights_72 : decode cX12_readsHeights 72 = .ok (.aload_n 0, 1) := by decide +kernel
theorem dX12_readsHeights_73 : decode cX12_readsHeights 73 = .ok (.getfield 219, 3) := by decide +kernel
theorem dX12_readsHeights_76 : decode cX12_readsHeights 76 = .ok (.invokevirtual 232, 3) := by decide +kernel
theorem dX12_readsHeights_79 : decode cX12_readsHeights 79 = .ok (.ireturn, 1) := by decide +kernel
theorem dX12_readsHeights_80 : decode cX12_readsHeights 80 = .ok (.iconst 0, 1) := by decide +kernel
theorem dX12_readsHeights_81 : decode cX12_readsHeights 81 = .ok (.istore 4, 2) := by decide +kernel
theorem dX12_readsHeights_83 : decode cX12_readsHeights 83 = .ok (.iload 4, 2) := by decide +kernel
theorem dX12_readsHeights_85 : decode cX12_readsHeights 85 = .ok (.iload_n 3, 1) := by decide +kernel
theorem dX12_readsHeights_86 : decode cX12_readsHeights 86 = .ok (.if_icmp .ge 30, 3) := by decide +kernel
theorem dX12_readsHeights_89 : decode cX12_readsHeights 89 = .ok (.aload_n 0, 1) := by decide +kernel
theorem dX12_readsHeights_90 : decode cX12_readsHeights 90 = .ok (.getfield 112, 3) := by decide +kernel
theorem dX12_readsHeights_93 : decode cX12_readsHeights 93 = .ok (.bipush 8, 2) := by decide +kernel
theorem dX12_readsHeights_95 : decode cX12_readsHeights 95 = .ok (.iload_n 1, 1) := by decide +kernel
theorem dX12_readsHeights_96 : decode cX12_readsHeights 96 = .ok (.imul, 1) := by decide +kernel
theorem dX12_readsHeights_97 : decode cX12_readsHeights 97 = .ok (.iload_n 2, 1) := by decide +kernel
theorem dX12_readsHeights_98 : decode cX12_readsHeights 98 = .ok (.iadd, 1) := by decide +kernel
theorem dX12_readsHeights_99 : decode cX12_readsHeights 99 = .ok (.iload 4, 2) := by decide +kernel
theorem dX12_readsHeights_101 : decode cX12_readsHeights 101 = .ok (.iadd, 1) := by decide +kernel
theorem dX12_readsHeights_102 : decode cX12_readsHeights 102 = .ok (.aload_n 0, 1) := by decide +kernel
theorem dX12_readsHeights_103 : decode cX12_readsHeights 103 = .ok (.invokevirtual 225, 3) := by decide +kernel
theorem dX12_readsHeights_106 : decode cX12_readsHeights 106 = .ok (.bipush 48, 2) := by decide +kernel
theorem dX12_readsHeights_108 : decode cX12_readsHeights 108 = .ok (.isub, 1) := by decide +kernel
theorem dX12_readsHeights_109 : decode cX12_readsHeights 109 = .ok (.iastore, 1) := by decide +kernel
theorem dX12_readsHeights_110 : decode cX12_readsHeights 110 = .ok (.iinc 4 1, 3) := by decide +kernel
theorem dX12_readsHeights_113 : decode cX12_readsHeights 113 = .ok (.goto (-30), 3) := by decide +kernel
theorem dX12_readsHeights_116 : decode cX12_readsHeights 116 = .ok (.iload_n 2, 1) := by decide +kernel
theorem dX12_readsHeights_117 : decode cX12_readsHeights 117 = .ok (.iload_n 3, 1) := by decide +kernel
theorem dX12_readsHeights_118 : decode cX12_readsHeights 118 = .ok (.iadd, 1) := by decide +kernel
theorem dX12_readsHeights_119 : decode cX12_readsHeights 119 = .ok (.istore_n 2, 1) := by decide +kernel
theorem dX12_readsHeights_120 : decode cX12_readsHeights 120 = .ok (.aload_n 0, 1) := by decide +kernel
theorem dX12_readsHeights_121 : decode cX12_readsHeights 121 = .ok (.aload_n 0, 1) := by decide +kernel
theorem dX12_readsHeights_122 : decode cX12_readsHeights 122 = .ok (.getfield 219, 3) := by decide +kernel
theorem dX12_readsHeights_125 : decode cX12_readsHeights 125 = .ok (.iconst 1, 1) := by decide +kernel
theorem dX12_readsHeights_126 : decode cX12_readsHeights 126 = .ok (.iadd, 1) := by decide +kernel
theorem dX12_readsHeights_127 : decode cX12_readsHeights 127 = .ok (.putfield 219, 3) := by decide +kernel
theorem dX12_readsHeights_130 : decode cX12_readsHeights 130 = .ok (.goto (-128), 3) := by decide +kernel
theorem dX12_readsHeights_133 : decode cX12_readsHeights 133 = .ok (.aload_n 0, 1) := by decide +kernel
theorem dX12_readsHeights_134 : decode cX12_readsHeights 134 = .ok (.invokevirtual 239, 3) := by decide +kernel
theorem dX12_readsHeights_137 : decode cX12_readsHeights 137 = .ok (.ifCond .ne 17, 3) := by decide +kernel
theorem dX12_readsHeights_140 : decode cX12_readsHeights 140 = .ok (.aload_n 0, 1) := by decide +kernel
theorem dX12_readsHeights_141 : decode cX12_readsHeights 141 = .ok (.invokevirtual 225, 3) := by decide +kernel
theorem dX12_readsHeights_144 : decode cX12_readsHeights 144 = .ok (.bipush 97, 2) := by decide +kernel
theorem dX12_readsHeights_146 : decode cX12_readsHeights 146 = .ok (.bipush 104, 2) := by decide +kernel
theorem dX12_readsHeights_148 : decode cX12_readsHeights 148 = .ok (.invokestatic 173, 3) := by decide +kernel
theorem dX12_readsHeights_151 : decode cX12_readsHeights 151 = .ok (.ifCond .eq 16, 3) := by decide +kernel
theorem dX12_readsHeights_154 : decode cX12_readsHeights 154 = .ok (.aload_n 0, 1) := by decide +kernel
theorem dX12_readsHeights_155 : decode cX12_readsHeights 155 = .ok (.bipush 6, 2) := by decide +kernel
theorem dX12_readsHeights_157 : decode cX12_readsHeights 157 = .ok (.aload_n 0, 1) := by decide +kernel
theorem dX12_readsHeights_158 : decode cX12_readsHeights 158 = .ok (.getfield 219, 3) := by decide +kernel
theorem dX12_readsHeights_161 : decode cX12_readsHeights 161 = .ok (.invokevirtual 232, 3) := by decide +kernel
theorem dX12_readsHeights_164 : decode cX12_readsHeights 164 = .ok (.ifCond .eq 7, 3) := by decide +kernel
theorem dX12_readsHeights_167 : decode cX12_readsHeights 167 = .ok (.iconst 1, 1) := by decide +kernel
theorem dX12_readsHeights_168 : decode cX12_readsHeights 168 = .ok (.goto 4, 3) := by decide +kernel
theorem dX12_readsHeights_171 : decode cX12_readsHeights 171 = .ok (.iconst 0, 1) := by decide +kernel
theorem dX12_readsHeights_172 : decode cX12_readsHeights 172 = .ok (.ireturn, 1) := by decide +kernel
theorem dX12_ground_0 : decode cX12_ground 0 = .ok (.iload_n 1, 1) := by decide +kernel
theorem dX12_ground_1 : decode cX12_ground 1 = .ok (.iconst 1, 1) := by decide +kernel
theorem dX12_ground_2 : decode cX12_ground 2 = .ok (.bipush 120, 2) := by decide +kernel
theorem dX12_ground_4 : decode cX12_ground 4 = .ok (.invokestatic 173, 3) := by decide +kernel
theorem dX12_ground_7 : decode cX12_ground 7 = .ok (.ifCond .eq 11, 3) := by decide +kernel
theorem dX12_ground_10 : decode cX12_ground 10 = .ok (.iload_n 1, 1) := by decide +kernel
theorem dX12_ground_11 : decode cX12_ground 11 = .ok (.aload_n 0, 1) := by decide +kernel
theorem dX12_ground_12 : decode cX12_ground 12 = .ok (.getfield 212, 3) := by decide +kernel
theorem dX12_ground_15 : decode cX12_ground 15 = .ok (.if_icmp .le 5, 3) := by decide +kernel
theorem dX12_ground_18 : decode cX12_ground 18 = .ok (.iconst (-1), 1) := by decide +kernel
theorem dX12_ground_19 : decode cX12_ground 19 = .ok (.ireturn, 1) := by decide +kernel
theorem dX12_ground_20 : decode cX12_ground 20 = .ok (.aload_n 0, 1) := by decide +kernel
theorem dX12_ground_21 : decode cX12_ground 21 = .ok (.iconst 0, 1) := by decide +kernel
theorem dX12_ground_22 : decode cX12_ground 22 = .ok (.putfield 219, 3) := by decide +kernel
theorem dX12_ground_25 : decode cX12_ground 25 = .ok (.aload_n 0, 1) := by decide +kernel
theorem dX12_ground_26 : decode cX12_ground 26 = .ok (.iload_n 1, 1) := by decide +kernel
theorem dX12_ground_27 : decode cX12_ground 27 = .ok (.putfield 222, 3) := by decide +kernel
theorem dX12_ground_30 : decode cX12_ground 30 = .ok (.aload_n 0, 1) := by decide +kernel
theorem dX12_ground_31 : decode cX12_ground 31 = .ok (.iconst 0, 1) := by decide +kernel
theorem dX12_ground_32 : decode cX12_ground 32 = .ok (.invokevirtual 455, 3) := by decide +kernel
theorem dX12_ground_35 : decode cX12_ground 35 = .ok (.istore_n 2, 1) := by decide +kernel
theorem dX12_ground_36 : decode cX12_ground 36 = .ok (.iconst 1, 1) := by decide +kernel
theorem dX12_ground_37 : decode cX12_ground 37 = .ok (.istore_n 3, 1) := by decide +kernel
theorem dX12_ground_38 : decode cX12_ground 38 = .ok (.iload_n 3, 1) := by decide +kernel
theorem dX12_ground_39 : decode cX12_ground 39 = .ok (.bipush 8, 2) := by decide +kernel
theorem dX12_ground_41 : decode cX12_ground 41 = .ok (.if_icmp .ge 36, 3) := by decide +kernel
theorem dX12_ground_44 : decode cX12_ground 44 = .ok (.iload_n 2, 1) := by decide +kernel
theorem dX12_ground_45 : decode cX12_ground 45 = .ok (.ifCond .eq 32, 3) := by decide +kernel
theorem dX12_ground_48 : decode cX12_ground 48 = .ok (.aload_n 0, 1) := by decide +kernel
theorem dX12_ground_49 : decode cX12_ground 49 = .ok (.bipush 47, 2) := by decide +kernel
theorem dX12_ground_51 : decode cX12_ground 51 = .ok (.invokevirtual 309, 3) := by decide +kernel
theorem dX12_ground_54 : decode cX12_ground 54 = .ok (.ifCond .eq 15, 3) := by decide +kernel
theorem dX12_ground_57 : decode cX12_ground 57 = .ok (.aload_n 0, 1) := by decide +kernel
theorem dX12_ground_58 : decode cX12_ground 58 = .ok (.iload_n 3, 1) := by decide +kernel
theorem dX12_ground_59 : decode cX12_ground 59 = .ok (.invokevirtual 455, 3) := by decide +kernel
theorem dX12_ground_62 : decode cX12_ground 62 = .ok (.ifCond .eq 7, 3) := by decide +kernel
theorem dX12_ground_65 : decode cX12_ground 65 = .ok (.iconst 1, 1) := by decide +kernel
theorem dX12_ground_66 : decode cX12_ground 66 = .ok (.goto 4, 3) := by decide +kernel
theorem dX12_ground_69 : decode cX12_ground 69 = .ok (.iconst 0, 1) := by decide +kernel
theorem dX12_ground_70 : decode cX12_ground 70 = .ok (.istore_n 2, 1) := by decide +kernel
theorem dX12_ground_71 : decode cX12_ground 71 = .ok (.iinc 3 1, 3) := by decide +kernel
theorem dX12_ground_74 : decode cX12_ground 74 = .ok (.goto (-36), 3) := by decide +kernel
theorem dX12_ground_77 : decode cX12_ground 77 = .ok (.iload_n 2, 1) := by decide +kernel
theorem dX12_ground_78 : decode cX12_ground 78 = .ok (.ifCond .eq 24, 3) := by decide +kernel
theorem dX12_ground_81 : decode cX12_ground 81 = .ok (.aload_n 0, 1) := by decide +kernel
theorem dX12_ground_82 : decode cX12_ground 82 = .ok (.getfield 219, 3) := by decide +kernel
theorem dX12_ground_85 : decode cX12_ground 85 = .ok (.aload_n 0, 1) := by decide +kernel
theorem dX12_ground_86 : decode cX12_ground 86 = .ok (.getfield 222, 3) := by decide +kernel
theorem dX12_ground_89 : decode cX12_ground 89 = .ok (.if_icmp .ge 13, 3) := by decide +kernel
theorem dX12_ground_92 : decode cX12_ground 92 = .ok (.aload_n 0, 1) := by decide +kernel
theorem dX12_ground_93 : decode cX12_ground 93 = .ok (.iconst 1, 1) := by decide +kernel
theorem dX12_ground_94 : decode cX12_ground 94 = .ok (.aload_n 0, 1) := by decide +kernel
theorem dX12_ground_95 : decode cX12_ground 95 = .ok (.getfield 219, 3) := by decide +kernel
theorem dX12_ground_98 : decode cX12_ground 98 = .ok (.invokevirtual 232, 3) := by decide +kernel
theorem dX12_ground_101 : decode cX12_ground 101 = .ok (.istore_n 2, 1) := by decide +kernel
theorem dX12_ground_102 : decode cX12_ground 102 = .ok (.aload_n 0, 1) := by decide +kernel
theorem dX12_ground_103 : decode cX12_ground 103 = .ok (.iconst 0, 1) := by decide +kernel
theorem dX12_ground_104 : decode cX12_ground 104 = .ok (.putfield 212, 3) := by decide +kernel
theorem dX12_ground_107 : decode cX12_ground 107 = .ok (.iload_n 2, 1) := by decide +kernel
theorem dX12_ground_108 : decode cX12_ground 108 = .ok (.ifCond .ne 8, 3) := by decide +kernel
theorem dX12_ground_111 : decode cX12_ground 111 = .ok (.aload_n 0, 1) := by decide +kernel
theorem dX12_ground_112 : decode cX12_ground 112 = .ok (.getfield 229, 3) := by decide +kernel
theorem dX12_ground_115 : decode cX12_ground 115 = .ok (.ireturn, 1) := by decide +kernel
theorem dX12_ground_116 : decode cX12_ground 116 = .ok (.iconst 0, 1) := by decide +kernel
theorem dX12_ground_117 : decode cX12_ground 117 = .ok (.istore_n 3, 1) := by decide +kernel
theorem dX12_ground_118 : decode cX12_ground 118 = .ok (.iconst 0, 1) := by decide +kernel
theorem dX12_ground_119 : decode cX12_ground 119 = .ok (.istore 4, 2) := by decide +kernel
theorem dX12_ground_121 : decode cX12_ground 121 = .ok (.iload 4, 2) := by decide +kernel
theorem dX12_ground_123 : decode cX12_ground 123 = .ok (.bipush 64, 2) := by decide +kernel
theorem dX12_ground_125 : decode cX12_ground 125 = .ok (.if_icmp .ge 35, 3) := by decide +kernel
theorem dX12_ground_128 : decode cX12_ground 128 = .ok (.aload_n 0, 1) := by decide +kernel
theorem dX12_ground_129 : decode cX12_ground 129 = .ok (.getfield 109, 3) := by decide +kernel
theorem dX12_ground_132 : decode cX12_ground 132 = .ok (.iload 4, 2) := by decide +kernel
theorem dX12_ground_134 : decode cX12_ground 134 = .ok (.aload_n 0, 1) := by decide +kernel
theorem dX12_ground_135 : decode cX12_ground 135 = .ok (.getfield 112, 3) := by decide +kernel
theorem dX12_ground_138 : decode cX12_ground 138 = .ok (.iload 4, 2) := by decide +kernel
theorem dX12_ground_140 : decode cX12_ground 140 = .ok (.iaload, 1) := by decide +kernel
theorem dX12_ground_141 : decode cX12_ground 141 = .ok (.iastore, 1) := by decide +kernel
theorem dX12_ground_142 : decode cX12_ground 142 = .ok (.iload_n 3, 1) := by decide +kernel
theorem dX12_ground_143 : decode cX12_ground 143 = .ok (.aload_n 0, 1) := by decide +kernel
theorem dX12_ground_144 : decode cX12_ground 144 = .ok (.getfield 109, 3) := by decide +kernel
theorem dX12_ground_147 : decode cX12_ground 147 = .ok (.iload 4, 2) := by decide +kernel
theorem dX12_ground_149 : decode cX12_ground 149 = .ok (.iaload, 1) := by decide +kernel
theorem dX12_ground_150 : decode cX12_ground 150 = .ok (.invokestatic 445, 3) := by decide +kernel
theorem dX12_ground_153 : decode cX12_ground 153 = .ok (.istore_n 3, 1) := by decide +kernel
theorem dX12_ground_154 : decode cX12_ground 154 = .ok (.iinc 4 1, 3) := by decide +kernel
theorem dX12_ground_157 : decode cX12_ground 157 = .ok (.goto (-36), 3) := by decide +kernel
theorem dX12_ground_160 : decode cX12_ground 160 = .ok (.iload_n 3, 1) := by decide +kernel
theorem dX12_ground_161 : decode cX12_ground 161 = .ok (.ireturn, 1) := by decide +kernel
theorem dX12_rolls_0 : decode cX12_rolls 0 = .ok (.iload_n 1, 1) := by decide +kernel
theorem dX12_rolls_1 : decode cX12_rolls 1 = .ok (.istore 5, 2) := by decide +kernel
theorem dX12_rolls_3 : decode cX12_rolls 3 = .ok (.iload_n 2, 1) := by decide +kernel
theorem dX12_rolls_4 : decode cX12_rolls 4 = .ok (.istore 6, 2) := by decide +kernel
theorem dX12_rolls_6 : decode cX12_rolls 6 = .ok (.iload 4, 2) := by decide +kernel
theorem dX12_rolls_8 : decode cX12_rolls 8 = .ok (.istore 7, 2) := by decide +kernel
theorem dX12_rolls_10 : decode cX12_rolls 10 = .ok (.aload_n 0, 1) := by decide +kernel
theorem dX12_rolls_11 : decode cX12_rolls 11 = .ok (.iconst 0, 1) := by decide +kernel
theorem dX12_rolls_12 : decode cX12_rolls 12 = .ok (.putfield 458, 3) := by decide +kernel
theorem dX12_rolls_15 : decode cX12_rolls 15 = .ok (.iload 7, 2) := by decide +kernel
theorem dX12_rolls_17 : decode cX12_rolls 17 = .ok (.ifCond .le 126, 3) := by decide +kernel
theorem dX12_rolls_20 : decode cX12_rolls 20 = .ok (.aload_n 0, 1) := by decide +kernel
theorem dX12_rolls_21 : decode cX12_rolls 21 = .ok (.getfield 109, 3) := by decide +kernel
theorem dX12_rolls_24 : decode cX12_rolls 24 = .ok (.bipush 8, 2) := by decide +kernel
theorem dX12_rolls_26 : decode cX12_rolls 26 = .ok (.iload 6, 2) := by decide +kernel
theorem dX12_rolls_28 : decode cX12_rolls 28 = .ok (.imul, 1) := by decide +kernel
theorem dX12_rolls_29 : decode cX12_rolls 29 = .ok (.iload 5, 2) := by decide +kernel
theorem dX12_rolls_31 : decode cX12_rolls 31 = .ok (.iadd, 1) := by decide +kernel
theorem dX12_rolls_32 : decode cX12_rolls 32 = .ok (.iaload, 1) := by decide +kernel
theorem dX12_rolls_33 : decode cX12_rolls 33 = .ok (.istore 8, 2) := by decide +kernel
theorem dX12_rolls_35 : decode cX12_rolls 35 = .ok (.iload 5, 2) := by decide +kernel
theorem dX12_rolls_37 : decode cX12_rolls 37 = .ok (.iload_n 3, 1) := by decide +kernel
theorem dX12_rolls_38 : decode cX12_rolls 38 = .ok (.iconst 1, 1) := by decide +kernel
theorem dX12_rolls_39 : decode cX12_rolls 39 = .ok (.if_icmp .ne 7, 3) := by decide +kernel
theorem dX12_rolls_42 : decode cX12_rolls 42 = .ok (.iconst 1, 1) := by decide +kernel
theorem dX12_rolls_43 : decode cX12_rolls 43 = .ok (.goto 13, 3) := by decide +kernel
theorem dX12_rolls_46 : decode cX12_rolls 46 = .ok (.iload_n 3, 1) := by decide +kernel
theorem dX12_rolls_47 : decode cX12_rolls 47 = .ok (.iconst 3, 1) := by decide +kernel
theorem dX12_rolls_48 : decode cX12_rolls 48 = .ok (.if_icmp .ne 7, 3) := by decide +kernel
theorem dX12_rolls_51 : decode cX12_rolls 51 = .ok (.iconst (-1), 1) := by decide +kernel
theorem dX12_rolls_52 : decode cX12_rolls 52 = .ok (.goto 4, 3) := by decide +kernel
theorem dX12_rolls_55 : decode cX12_rolls 55 = .ok (.iconst 0, 1) := by decide +kernel
theorem dX12_rolls_56 : decode cX12_rolls 56 = .ok (.iadd, 1) := by decide +kernel
theorem dX12_rolls_57 : decode cX12_rolls 57 = .ok (.istore 5, 2) := by decide +kernel
theorem dX12_rolls_59 : decode cX12_rolls 59 = .ok (.iload 6, 2) := by decide +kernel
theorem dX12_rolls_61 : decode cX12_rolls 61 = .ok (.iload_n 3, 1) := by decide +kernel
theorem dX12_rolls_62 : decode cX12_rolls 62 = .ok (.ifCond .ne 7, 3) := by decide +kernel
theorem dX12_rolls_65 : decode cX12_rolls 65 = .ok (.iconst 1, 1) := by decide +kernel
theorem dX12_rolls_66 : decode cX12_rolls 66 = .ok (.goto 13, 3) := by decide +kernel
theorem dX12_rolls_69 : decode cX12_rolls 69 = .ok (.iload_n 3, 1) := by decide +kernel
theorem dX12_rolls_70 : decode cX12_rolls 70 = .ok (.iconst 2, 1) := by decide +kernel
theorem dX12_rolls_71 : decode cX12_rolls 71 = .ok (.if_icmp .ne 7, 3) := by decide +kernel
theorem dX12_rolls_74 : decode cX12_rolls 74 = .ok (.iconst (-1), 1) := by decide +kernel
theorem dX12_rolls_75 : decode cX12_rolls 75 = .ok (.goto 4, 3) := by decide +kernel
theorem dX12_rolls_78 : decode cX12_rolls 78 = .ok (.iconst 0, 1) := by decide +kernel
theorem dX12_rolls_79 : decode cX12_rolls 79 = .ok (.iadd, 1) := by decide +kernel
theorem dX12_rolls_80 : decode cX12_rolls 80 = .ok (.istore 6, 2) := by decide +kernel
theorem dX12_rolls_82 : decode cX12_rolls 82 = .ok (.iload 5, 2) := by decide +kernel
theorem dX12_rolls_84 : decode cX12_rolls 84 = .ok (.iconst 0, 1) := by decide +kernel
theorem dX12_rolls_85 : decode cX12_rolls 85 = .ok (.bipush 7, 2) := by decide +kernel
theorem dX12_rolls_87 : decode cX12_rolls 87 = .ok (.invokestatic 173, 3) := by decide +kernel
theorem dX12_rolls_90 : decode cX12_rolls 90 = .ok (.ifCond .eq 14, 3) := by decide +kernel
theorem dX12_rolls_93 : decode cX12_rolls 93 = .ok (.iload 6, 2) := by decide +kernel
theorem dX12_rolls_95 : decode cX12_rolls 95 = .ok (.iconst 0, 1) := by decide +kernel
theorem dX12_rolls_96 : decode cX12_rolls 96 = .ok (.bipush 7, 2) := by decide +kernel
theorem dX12_rolls_98 : decode cX12_rolls 98 = .ok (.invokestatic 173, 3) := by decide +kernel
theorem dX12_rolls_101 : decode cX12_rolls 101 = .ok (.ifCond .ne 6, 3) := by decide +kernel
theorem dX12_rolls_104 : decode cX12_rolls 104 = .ok (.bipush (-2), 2) := by decide +kernel
theorem dX12_rolls_106 : decode cX12_rolls 106 = .ok (.ireturn, 1) := by decide +kernel
theorem dX12_rolls_107 : decode cX12_rolls 107 = .ok (.aload_n 0, 1) := by decide +kernel
theorem dX12_rolls_108 : decode cX12_rolls 108 = .ok (.aload_n 0, 1) := by decide +kernel
theorem dX12_rolls_109 : decode cX12_rolls 109 = .ok (.getfield 458, 3) := by decide +kernel
theorem dX12_rolls_112 : decode cX12_rolls 112 = .ok (.iconst 1, 1) := by decide +kernel
theorem dX12_rolls_113 : decode cX12_rolls 113 = .ok (.iadd, 1) := by decide +kernel
theorem dX12_rolls_114 : decode cX12_rolls 114 = .ok (.putfield 458, 3) := by decide +kernel
theorem dX12_rolls_117 : decode cX12_rolls 117 = .ok (.iload 7, 2) := by decide +kernel
theorem dX12_rolls_119 : decode cX12_rolls 119 = .ok (.iconst 1, 1) := by decide +kernel
theorem dX12_rolls_120 : decode cX12_rolls 120 = .ok (.isub, 1) := by decide +kernel
theorem dX12_rolls_121 : decode cX12_rolls 121 = .ok (.iload 8, 2) := by decide +kernel
theorem dX12_rolls_123 : decode cX12_rolls 123 = .ok (.iadd, 1) := by decide +kernel
theorem dX12_rolls_124 : decode cX12_rolls 124 = .ok (.aload_n 0, 1) := by decide +kernel
theorem dX12_rolls_125 : decode cX12_rolls 125 = .ok (.getfield 109, 3) := by decide +kernel
theorem dX12_rolls_128 : decode cX12_rolls 128 = .ok (.bipush 8, 2) := by decide +kernel
theorem dX12_rolls_130 : decode cX12_rolls 130 = .ok (.iload 6, 2) := by decide +kernel
theorem dX12_rolls_132 : decode cX12_rolls 132 = .ok (.imul, 1) := by decide +kernel
theorem dX12_rolls_133 : decode cX12_rolls 133 = .ok (.iload 5, 2) := by decide +kernel
theorem dX12_rolls_135 : decode cX12_rolls 135 = .ok (.iadd, 1) := by decide +kernel
theorem dX12_rolls_136 : decode cX12_rolls 136 = .ok (.iaload, 1) := by decide +kernel
theorem dX12_rolls_137 : decode cX12_rolls 137 = .ok (.isub, 1) := by decide +kernel
theorem dX12_rolls_138 : decode cX12_rolls 138 = .ok (.istore 7, 2) := by decide +kernel
theorem dX12_rolls_140 : decode cX12_rolls 140 = .ok (.goto (-125), 3) := by decide +kernel
theorem dX12_rolls_143 : decode cX12_rolls 143 = .ok (.bipush 8, 2) := by decide +kernel
theorem dX12_rolls_145 : decode cX12_rolls 145 = .ok (.iload 6, 2) := by decide +kernel
theorem dX12_rolls_147 : decode cX12_rolls 147 = .ok (.imul, 1) := by decide +kernel
theorem dX12_rolls_148 : decode cX12_rolls 148 = .ok (.iload 5, 2) := by decide +kernel
theorem dX12_rolls_150 : decode cX12_rolls 150 = .ok (.iadd, 1) := by decide +kernel
theorem dX12_rolls_151 : decode cX12_rolls 151 = .ok (.ireturn, 1) := by decide +kernel
theorem dX12_roll_0 : decode cX12_roll 0 = .ok (.iload_n 1, 1) := by decide +kernel
theorem dX12_roll_1 : decode cX12_roll 1 = .ok (.iconst 0, 1) := by decide +kernel
theorem dX12_roll_2 : decode cX12_roll 2 = .ok (.bipush 7, 2) := by decide +kernel
theorem dX12_roll_4 : decode cX12_roll 4 = .ok (.invokestatic 173, 3) := by decide +kernel
theorem dX12_roll_7 : decode cX12_roll 7 = .ok (.ifCond .eq 43, 3) := by decide +kernel
theorem dX12_roll_10 : decode cX12_roll 10 = .ok (.iload_n 2, 1) := by decide +kernel
theorem dX12_roll_11 : decode cX12_roll 11 = .ok (.iconst 0, 1) := by decide +kernel
theorem dX12_roll_12 : decode cX12_roll 12 = .ok (.bipush 7, 2) := by decide +kernel
theorem dX12_roll_14 : decode cX12_roll 14 = .ok (.invokestatic 173, 3) := by decide +kernel
theorem dX12_roll_17 : decode cX12_roll 17 = .ok (.ifCond .eq 33, 3) := by decide +kernel
theorem dX12_roll_20 : decode cX12_roll 20 = .ok (.iload_n 3, 1) := by decide +kernel
theorem dX12_roll_21 : decode cX12_roll 21 = .ok (.iconst 0, 1) := by decide +kernel
theorem dX12_roll_22 : decode cX12_roll 22 = .ok (.iconst 3, 1) := by decide +kernel
theorem dX12_roll_23 : decode cX12_roll 23 = .ok (.invokestatic 173, 3) := by decide +kernel
theorem dX12_roll_26 : decode cX12_roll 26 = .ok (.ifCond .eq 24, 3) := by decide +kernel
theorem dX12_roll_29 : decode cX12_roll 29 = .ok (.iload 4, 2) := by decide +kernel
theorem dX12_roll_31 : decode cX12_roll 31 = .ok (.iconst 0, 1) := by decide +kernel
theorem dX12_roll_32 : decode cX12_roll 32 = .ok (.bipush 9, 2) := by decide +kernel
theorem dX12_roll_34 : decode cX12_roll 34 = .ok (.invokestatic 173, 3) := by decide +kernel
theorem dX12_roll_37 : decode cX12_roll 37 = .ok (.ifCond .eq 13, 3) := by decide +kernel
theorem dX12_roll_40 : decode cX12_roll 40 = .ok (.iload 5, 2) := by decide +kernel
theorem dX12_roll_42 : decode cX12_roll 42 = .ok (.iconst 0, 1) := by decide +kernel
theorem dX12_roll_43 : decode cX12_roll 43 = .ok (.iconst 1, 1) := by decide +kernel
theorem dX12_roll_44 : decode cX12_roll 44 = .ok (.invokestatic 173, 3) := by decide +kernel
theorem dX12_roll_47 : decode cX12_roll 47 = .ok (.ifCond .ne 5, 3) := by decide +kernel
theorem dX12_roll_50 : decode cX12_roll 50 = .ok (.iconst (-1), 1) := by decide +kernel
theorem dX12_roll_51 : decode cX12_roll 51 = .ok (.ireturn, 1) := by decide +kernel
theorem dX12_roll_52 : decode cX12_roll 52 = .ok (.aload_n 0, 1) := by decide +kernel
theorem dX12_roll_53 : decode cX12_roll 53 = .ok (.iload_n 1, 1) := by decide +kernel
theorem dX12_roll_54 : decode cX12_roll 54 = .ok (.iload_n 2, 1) := by decide +kernel
theorem dX12_roll_55 : decode cX12_roll 55 = .ok (.iload_n 3, 1) := by decide +kernel
theorem dX12_roll_56 : decode cX12_roll 56 = .ok (.iload 4, 2) := by decide +kernel
theorem dX12_roll_58 : decode cX12_roll 58 = .ok (.invokevirtual 461, 3) := by decide +kernel
theorem dX12_roll_61 : decode cX12_roll 61 = .ok (.istore 6, 2) := by decide +kernel
theorem dX12_roll_63 : decode cX12_roll 63 = .ok (.iload 5, 2) := by decide +kernel
theorem dX12_roll_65 : decode cX12_roll 65 = .ok (.ifCond .ne 8, 3) := by decide +kernel
theorem dX12_roll_68 : decode cX12_roll 68 = .ok (.iload 6, 2) := by decide +kernel
theorem dX12_roll_70 : decode cX12_roll 70 = .ok (.goto 7, 3) := by decide +kernel
theorem dX12_roll_73 : decode cX12_roll 73 = .ok (.aload_n 0, 1) := by decide +kernel
theorem dX12_roll_74 : decode cX12_roll 74 = .ok (.getfield 458, 3) := by decide +kernel
theorem dX12_roll_77 : decode cX12_roll 77 = .ok (.ireturn, 1) := by decide +kernel
theorem dX12_lay_0 : decode cX12_lay 0 = .ok (.iload_n 1, 1) := by decide +kernel
theorem dX12_lay_1 : decode cX12_lay 1 = .ok (.iconst 0, 1) := by decide +kernel
theorem dX12_lay_2 : decode cX12_lay 2 = .ok (.bipush 7, 2) := by decide +kernel
theorem dX12_lay_4 : decode cX12_lay 4 = .ok (.invokestatic 173, 3) := by decide +kernel
theorem dX12_lay_7 : decode cX12_lay 7 = .ok (.ifCond .eq 22, 3) := by decide +kernel
theorem dX12_lay_10 : decode cX12_lay 10 = .ok (.iload_n 2, 1) := by decide +kernel
theorem dX12_lay_11 : decode cX12_lay 11 = .ok (.iconst 0, 1) := by decide +kernel
theorem dX12_lay_12 : decode cX12_lay 12 = .ok (.bipush 7, 2) := by decide +kernel
theorem dX12_lay_14 : decode cX12_lay 14 = .ok (.invokestatic 173, 3) := by decide +kernel
theorem dX12_lay_17 : decode cX12_lay 17 = .ok (.ifCond .eq 12, 3) := by decide +kernel
theorem dX12_lay_20 : decode cX12_lay 20 = .ok (.iload_n 3, 1) := by decide +kernel
theorem dX12_lay_21 : decode cX12_lay 21 = .ok (.iconst 0, 1) := by decide +kernel
theorem dX12_lay_22 : decode cX12_lay 22 = .ok (.iconst 2, 1) := by decide +kernel
theorem dX12_lay_23 : decode cX12_lay 23 = .ok (.invokestatic 173, 3) := by decide +kernel
theorem dX12_lay_26 : decode cX12_lay 26 = .ok (.ifCond .ne 5, 3) := by decide +kernel
theorem dX12_lay_29 : decode cX12_lay 29 = .ok (.iconst (-1), 1) := by decide +kernel
theorem dX12_lay_30 : decode cX12_lay 30 = .ok (.ireturn, 1) := by decide +kernel
theorem dX12_lay_31 : decode cX12_lay 31 = .ok (.ldc_w 465, 3) := by decide +kernel
theorem dX12_lay_34 : decode cX12_lay 34 = .ok (.istore 4, 2) := by decide +kernel
theorem dX12_lay_36 : decode cX12_lay 36 = .ok (.iconst (-1), 1) := by decide +kernel
theorem dX12_lay_37 : decode cX12_lay 37 = .ok (.istore 5, 2) := by decide +kernel
theorem dX12_lay_39 : decode cX12_lay 39 = .ok (.bipush 8, 2) := by decide +kernel
theorem dX12_lay_41 : decode cX12_lay 41 = .ok (.istore 6, 2) := by decide +kernel
theorem dX12_lay_43 : decode cX12_lay 43 = .ok (.iload 6, 2) := by decide +kernel
theorem dX12_lay_45 : decode cX12_lay 45 = .ok (.bipush 80, 2) := by decide +kernel
theorem dX12_lay_47 : decode cX12_lay 47 = .ok (.if_icmp .ge 89, 3) := by decide +kernel
theorem dX12_lay_50 : decode cX12_lay 50 = .ok (.aload_n 0, 1) := by decide +kernel
theorem dX12_lay_51 : decode cX12_lay 51 = .ok (.iconst 0, 1) := by decide +kernel
theorem dX12_lay_52 : decode cX12_lay 52 = .ok (.iload 6, 2) := by decide +kernel
theorem dX12_lay_54 : decode cX12_lay 54 = .ok (.bipush 8, 2) := by decide +kernel
theorem dX12_lay_56 : decode cX12_lay 56 = .ok (.irem, 1) := by decide +kernel
theorem dX12_lay_57 : decode cX12_lay 57 = .ok (.iconst 1, 1) := by decide +kernel
theorem dX12_lay_58 : decode cX12_lay 58 = .ok (.iload 6, 2) := by decide +kernel
theorem dX12_lay_60 : decode cX12_lay 60 = .ok (.bipush 8, 2) := by decide +kernel
theorem dX12_lay_62 : decode cX12_lay 62 = .ok (.idiv, 1) := by decide +kernel
theorem dX12_lay_63 : decode cX12_lay 63 = .ok (.invokevirtual 461, 3) := by decide +kernel
theorem dX12_lay_66 : decode cX12_lay 66 = .ok (.istore 7, 2) := by decide +kernel
theorem dX12_lay_68 : decode cX12_lay 68 = .ok (.iload 7, 2) := by decide +kernel
theorem dX12_lay_70 : decode cX12_lay 70 = .ok (.ifCond .ge 6, 3) := by decide +kernel
theorem dX12_lay_73 : decode cX12_lay 73 = .ok (.goto 57, 3) := by decide +kernel
theorem dX12_lay_76 : decode cX12_lay 76 = .ok (.iload 7, 2) := by decide +kernel
theorem dX12_lay_78 : decode cX12_lay 78 = .ok (.bipush 8, 2) := by decide +kernel
theorem dX12_lay_80 : decode cX12_lay 80 = .ok (.irem, 1) := by decide +kernel
theorem dX12_lay_81 : decode cX12_lay 81 = .ok (.iload_n 1, 1) := by decide +kernel
theorem dX12_lay_82 : decode cX12_lay 82 = .ok (.isub, 1) := by decide +kernel
theorem dX12_lay_83 : decode cX12_lay 83 = .ok (.istore 8, 2) := by decide +kernel
theorem dX12_lay_85 : decode cX12_lay 85 = .ok (.iload 7, 2) := by decide +kernel
theorem dX12_lay_87 : decode cX12_lay 87 = .ok (.bipush 8, 2) := by decide +kernel
theorem dX12_lay_89 : decode cX12_lay 89 = .ok (.idiv, 1) := by decide +kernel
theorem dX12_lay_90 : decode cX12_lay 90 = .ok (.iload_n 2, 1) := by decide +kernel
theorem dX12_lay_91 : decode cX12_lay 91 = .ok (.isub, 1) := by decide +kernel
theorem dX12_lay_92 : decode cX12_lay 92 = .ok (.istore 9, 2) := by decide +kernel
theorem dX12_lay_94 : decode cX12_lay 94 = .ok (.iload 8, 2) := by decide +kernel
theorem dX12_lay_96 : decode cX12_lay 96 = .ok (.iload 8, 2) := by decide +kernel
theorem dX12_lay_98 : decode cX12_lay 98 = .ok (.imul, 1) := by decide +kernel
theorem dX12_lay_99 : decode cX12_lay 99 = .ok (.iload 9, 2) := by decide +kernel
theorem dX12_lay_101 : decode cX12_lay 101 = .ok (.iload 9, 2) := by decide +kernel
theorem dX12_lay_103 : decode cX12_lay 103 = .ok (.imul, 1) := by decide +kernel
theorem dX12_lay_104 : decode cX12_lay 104 = .ok (.iadd, 1) := by decide +kernel
theorem dX12_lay_105 : decode cX12_lay 105 = .ok (.iload 4, 2) := by decide +kernel
theorem dX12_lay_107 : decode cX12_lay 107 = .ok (.if_icmp .lt 6, 3) := by decide +kernel
theorem dX12_lay_110 : decode cX12_lay 110 = .ok (.goto 20, 3) := by decide +kernel
theorem dX12_lay_113 : decode cX12_lay 113 = .ok (.iload 8, 2) := by decide +kernel
theorem dX12_lay_115 : decode cX12_lay 115 = .ok (.iload 8, 2) := by decide +kernel
theorem dX12_lay_117 : decode cX12_lay 117 = .ok (.imul, 1) := by decide +kernel
theorem dX12_lay_118 : decode cX12_lay 118 = .ok (.iload 9, 2) := by decide +kernel
theorem dX12_lay_120 : decode cX12_lay 120 = .ok (.iload 9, 2) := by decide +kernel
theorem dX12_lay_122 : decode cX12_lay 122 = .ok (.imul, 1) := by decide +kernel
theorem dX12_lay_123 : decode cX12_lay 123 = .ok (.iadd, 1) := by decide +kernel
theorem dX12_lay_124 : decode cX12_lay 124 = .ok (.istore 4, 2) := by decide +kernel
theorem dX12_lay_126 : decode cX12_lay 126 = .ok (.iload 6, 2) := by decide +kernel
theorem dX12_lay_128 : decode cX12_lay 128 = .ok (.istore 5, 2) := by decide +kernel
theorem dX12_lay_130 : decode cX12_lay 130 = .ok (.iinc 6 1, 3) := by decide +kernel
theorem dX12_lay_133 : decode cX12_lay 133 = .ok (.goto (-90), 3) := by decide +kernel
theorem dX12_lay_136 : decode cX12_lay 136 = .ok (.iload 5, 2) := by decide +kernel
theorem dX12_lay_138 : decode cX12_lay 138 = .ok (.iconst (-1), 1) := by decide +kernel
theorem dX12_lay_139 : decode cX12_lay 139 = .ok (.if_icmp .ne 8, 3) := by decide +kernel
theorem dX12_lay_142 : decode cX12_lay 142 = .ok (.bipush (-2), 2) := by decide +kernel
theorem dX12_lay_144 : decode cX12_lay 144 = .ok (.goto 44, 3) := by decide +kernel
theorem dX12_lay_147 : decode cX12_lay 147 = .ok (.iload_n 3, 1) := by decide +kernel
theorem dX12_lay_148 : decode cX12_lay 148 = .ok (.ifCond .ne 11, 3) := by decide +kernel
theorem dX12_lay_151 : decode cX12_lay 151 = .ok (.iload 5, 2) := by decide +kernel
theorem dX12_lay_153 : decode cX12_lay 153 = .ok (.bipush 8, 2) := by decide +kernel
theorem dX12_lay_155 : decode cX12_lay 155 = .ok (.irem, 1) := by decide +kernel
theorem dX12_lay_156 : decode cX12_lay 156 = .ok (.goto 32, 3) := by decide +kernel
theorem dX12_lay_159 : decode cX12_lay 159 = .ok (.iload_n 3, 1) := by decide +kernel
theorem dX12_lay_160 : decode cX12_lay 160 = .ok (.iconst 1, 1) := by decide +kernel
theorem dX12_lay_161 : decode cX12_lay 161 = .ok (.if_icmp .ne 11, 3) := by decide +kernel
theorem dX12_lay_164 : decode cX12_lay 164 = .ok (.iload 5, 2) := by decide +kernel
theorem dX12_lay_166 : decode cX12_lay 166 = .ok (.bipush 8, 2) := by decide +kernel
theorem dX12_lay_168 : decode cX12_lay 168 = .ok (.idiv, 1) := by decide +kernel
theorem dX12_lay_169 : decode cX12_lay 169 = .ok (.goto 19, 3) := by decide +kernel
theorem dX12_lay_172 : decode cX12_lay 172 = .ok (.aload_n 0, 1) := by decide +kernel
theorem dX12_lay_173 : decode cX12_lay 173 = .ok (.iconst 0, 1) := by decide +kernel
theorem dX12_lay_174 : decode cX12_lay 174 = .ok (.iload 5, 2) := by decide +kernel
theorem dX12_lay_176 : decode cX12_lay 176 = .ok (.bipush 8, 2) := by decide +kernel
theorem dX12_lay_178 : decode cX12_lay 178 = .ok (.irem, 1) := by decide +kernel
theorem dX12_lay_179 : decode cX12_lay 179 = .ok (.iconst 1, 1) := by decide +kernel
theorem dX12_lay_180 : decode cX12_lay 180 = .ok (.iload 5, 2) := by decide +kernel
theorem dX12_lay_182 : decode cX12_lay 182 = .ok (.bipush 8, 2) := by decide +kernel
theorem dX12_lay_184 : decode cX12_lay 184 = .ok (.idiv, 1) := by decide +kernel
theorem dX12_lay_185 : decode cX12_lay 185 = .ok (.invokevirtual 461, 3) := by decide +kernel
theorem dX12_lay_188 : decode cX12_lay 188 = .ok (.ireturn, 1) := by decide +kernel
theorem dX12_isOnField_0 : decode cX12_isOnField 0 = .ok (.iload_n 0, 1) := by decide +kernel
theorem dX12_isOnField_1 : decode cX12_isOnField 1 = .ok (.iconst 0, 1) := by decide +kernel
theorem dX12_isOnField_2 : decode cX12_isOnField 2 = .ok (.bipush 99, 2) := by decide +kernel
theorem dX12_isOnField_4 : decode cX12_isOnField 4 = .ok (.invokestatic 173, 3) := by decide +kernel
theorem dX12_isOnField_7 : decode cX12_isOnField 7 = .ok (.ifCond .eq 17, 3) := by decide +kernel
theorem dX12_isOnField_10 : decode cX12_isOnField 10 = .ok (.iload_n 1, 1) := by decide +kernel
theorem dX12_isOnField_11 : decode cX12_isOnField 11 = .ok (.iconst 0, 1) := by decide +kernel
theorem dX12_isOnField_12 : decode cX12_isOnField 12 = .ok (.bipush 99, 2) := by decide +kernel
theorem dX12_isOnField_14 : decode cX12_isOnField 14 = .ok (.invokestatic 173, 3) := by decide +kernel
theorem dX12_isOnField_17 : decode cX12_isOnField 17 = .ok (.ifCond .eq 7, 3) := by decide +kernel
theorem dX12_isOnField_20 : decode cX12_isOnField 20 = .ok (.iconst 1, 1) := by decide +kernel
theorem dX12_isOnField_21 : decode cX12_isOnField 21 = .ok (.goto 4, 3) := by decide +kernel
theorem dX12_isOnField_24 : decode cX12_isOnField 24 = .ok (.iconst 0, 1) := by decide +kernel
theorem dX12_isOnField_25 : decode cX12_isOnField 25 = .ok (.ireturn, 1) := by decide +kernel
theorem dX12_ball_0 : decode cX12_ball 0 = .ok (.iload_n 1, 1) := by decide +kernel
theorem dX12_ball_1 : decode cX12_ball 1 = .ok (.invokestatic 196, 3) := by decide +kernel
theorem dX12_ball_4 : decode cX12_ball 4 = .ok (.ifCond .eq 20, 3) := by decide +kernel
theorem dX12_ball_7 : decode cX12_ball 7 = .ok (.iload_n 2, 1) := by decide +kernel
theorem dX12_ball_8 : decode cX12_ball 8 = .ok (.iload_n 3, 1) := by decide +kernel
theorem dX12_ball_9 : decode cX12_ball 9 = .ok (.invokestatic 466, 3) := by decide +kernel
theorem dX12_ball_12 : decode cX12_ball 12 = .ok (.ifCond .eq 12, 3) := by decide +kernel
theorem dX12_ball_15 : decode cX12_ball 15 = .ok (.aload_n 0, 1) := by decide +kernel
theorem dX12_ball_16 : decode cX12_ball 16 = .ok (.getfield 469, 3) := by decide +kernel
theorem dX12_ball_19 : decode cX12_ball 19 = .ok (.bipush 12, 2) := by decide +kernel
theorem dX12_ball_21 : decode cX12_ball 21 = .ok (.if_icmp .ne 5, 3) := by decide +kernel
theorem dX12_ball_24 : decode cX12_ball 24 = .ok (.iconst (-1), 1) := by decide +kernel
theorem dX12_ball_25 : decode cX12_ball 25 = .ok (.ireturn, 1) := by decide +kernel
theorem dX12_ball_26 : decode cX12_ball 26 = .ok (.aload_n 0, 1) := by decide +kernel
theorem dX12_ball_27 : decode cX12_ball 27 = .ok (.getfield 115, 3) := by decide +kernel
theorem dX12_ball_30 : decode cX12_ball 30 = .ok (.aload_n 0, 1) := by decide +kernel
theorem dX12_ball_31 : decode cX12_ball 31 = .ok (.getfield 469, 3) := by decide +kernel
theorem dX12_ball_34 : decode cX12_ball 34 = .ok (.iload_n 1, 1) := by decide +kernel
theorem dX12_ball_35 : decode cX12_ball 35 = .ok (.iastore, 1) := by decide +kernel
theorem dX12_ball_36 : decode cX12_ball 36 = .ok (.aload_n 0, 1) := by decide +kernel
theorem dX12_ball_37 : decode cX12_ball 37 = .ok (.getfield 118, 3) := by decide +kernel
theorem dX12_ball_40 : decode cX12_ball 40 = .ok (.aload_n 0, 1) := by decide +kernel
theorem dX12_ball_41 : decode cX12_ball 41 = .ok (.getfield 469, 3) := by decide +kernel
theorem dX12_ball_44 : decode cX12_ball 44 = .ok (.iload_n 2, 1) := by decide +kernel
theorem dX12_ball_45 : decode cX12_ball 45 = .ok (.iastore, 1) := by decide +kernel
theorem dX12_ball_46 : decode cX12_ball 46 = .ok (.aload_n 0, 1) := by decide +kernel
theorem dX12_ball_47 : decode cX12_ball 47 = .ok (.getfield 121, 3) := by decide +kernel
theorem dX12_ball_50 : decode cX12_ball 50 = .ok (.aload_n 0, 1) := by decide +kernel
theorem dX12_ball_51 : decode cX12_ball 51 = .ok (.getfield 469, 3) := by decide +kernel
theorem dX12_ball_54 : decode cX12_ball 54 = .ok (.iload_n 3, 1) := by decide +kernel
theorem dX12_ball_55 : decode cX12_ball 55 = .ok (.iastore, 1) := by decide +kernel
theorem dX12_ball_56 : decode cX12_ball 56 = .ok (.aload_n 0, 1) := by decide +kernel
theorem dX12_ball_57 : decode cX12_ball 57 = .ok (.aload_n 0, 1) := by decide +kernel
theorem dX12_ball_58 : decode cX12_ball 58 = .ok (.getfield 469, 3) := by decide +kernel
theorem dX12_ball_61 : decode cX12_ball 61 = .ok (.iconst 1, 1) := by decide +kernel
theorem dX12_ball_62 : decode cX12_ball 62 = .ok (.iadd, 1) := by decide +kernel
theorem dX12_ball_63 : decode cX12_ball 63 = .ok (.putfield 469, 3) := by decide +kernel
theorem dX12_ball_66 : decode cX12_ball 66 = .ok (.aload_n 0, 1) := by decide +kernel
theorem dX12_ball_67 : decode cX12_ball 67 = .ok (.getfield 469, 3) := by decide +kernel
theorem dX12_ball_70 : decode cX12_ball 70 = .ok (.iconst 1, 1) := by decide +kernel
theorem dX12_ball_71 : decode cX12_ball 71 = .ok (.isub, 1) := by decide +kernel
theorem dX12_ball_72 : decode cX12_ball 72 = .ok (.ireturn, 1) := by decide +kernel
theorem dX12_pig_0 : decode cX12_pig 0 = .ok (.iload_n 1, 1) := by decide +kernel
theorem dX12_pig_1 : decode cX12_pig 1 = .ok (.iload_n 2, 1) := by decide +kernel
theorem dX12_pig_2 : decode cX12_pig 2 = .ok (.invokestatic 466, 3) := by decide +kernel
theorem dX12_pig_5 : decode cX12_pig 5 = .ok (.ifCond .ne 5, 3) := by decide +kernel
theorem dX12_pig_8 : decode cX12_pig 8 = .ok (.iconst 0, 1) := by decide +kernel
theorem dX12_pig_9 : decode cX12_pig 9 = .ok (.ireturn, 1) := by decide +kernel
theorem dX12_pig_10 : decode cX12_pig 10 = .ok (.aload_n 0, 1) := by decide +kernel
theorem dX12_pig_11 : decode cX12_pig 11 = .ok (.iload_n 1, 1) := by decide +kernel
theorem dX12_pig_12 : decode cX12_pig 12 = .ok (.putfield 149, 3) := by decide +kernel
theorem dX12_pig_15 : decode cX12_pig 15 = .ok (.aload_n 0, 1) := by decide +kernel
theorem dX12_pig_16 : decode cX12_pig 16 = .ok (.iload_n 2, 1) := by decide +kernel
theorem dX12_pig_17 : decode cX12_pig 17 = .ok (.putfield 152, 3) := by decide +kernel
theorem dX12_pig_20 : decode cX12_pig 20 = .ok (.iconst 1, 1) := by decide +kernel
theorem dX12_pig_21 : decode cX12_pig 21 = .ok (.ireturn, 1) := by decide +kernel
theorem dX12_gone_0 : decode cX12_gone 0 = .ok (.iload_n 1, 1) := by decide +kernel
theorem dX12_gone_1 : decode cX12_gone 1 = .ok (.iconst 0, 1) := by decide +kernel
theorem dX12_gone_2 : decode cX12_gone 2 = .ok (.aload_n 0, 1) := by decide +kernel
theorem dX12_gone_3 : decode cX12_gone 3 = .ok (.getfield 469, 3) := by decide +kernel
theorem dX12_gone_6 : decode cX12_gone 6 = .ok (.iconst 1, 1) := by decide +kernel
theorem dX12_gone_7 : decode cX12_gone 7 = .ok (.isub, 1) := by decide +kernel
theorem dX12_gone_8 : decode cX12_gone 8 = .ok (.invokestatic 173, 3) := by decide +kernel
theorem dX12_gone_11 : decode cX12_gone 11 = .ok (.ifCond .ne 5, 3) := by decide +kernel
theorem dX12_gone_14 : decode cX12_gone 14 = .ok (.iconst 0, 1) := by decide +kernel
theorem dX12_gone_15 : decode cX12_gone 15 = .ok (.ireturn, 1) := by decide +kernel
theorem dX12_gone_16 : decode cX12_gone 16 = .ok (.iload_n 1, 1) := by decide +kernel
theorem dX12_gone_17 : decode cX12_gone 17 = .ok (.istore_n 2, 1) := by decide +kernel
theorem dX12_gone_18 : decode cX12_gone 18 = .ok (.iload_n 2, 1) := by decide +kernel
theorem dX12_gone_19 : decode cX12_gone 19 = .ok (.iconst 1, 1) := by decide +kernel
theorem dX12_gone_20 : decode cX12_gone 20 = .ok (.iadd, 1) := by decide +kernel
theorem dX12_gone_21 : decode cX12_gone 21 = .ok (.aload_n 0, 1) := by decide +kernel
theorem dX12_gone_22 : decode cX12_gone 22 = .ok (.getfield 469, 3) := by decide +kernel
theorem dX12_gone_25 : decode cX12_gone 25 = .ok (.if_icmp .ge 51, 3) := by decide +kernel
theorem dX12_gone_28 : decode cX12_gone 28 = .ok (.aload_n 0, 1) := by decide +kernel
theorem dX12_gone_29 : decode cX12_gone 29 = .ok (.getfield 115, 3) := by decide +kernel
theorem dX12_gone_32 : decode cX12_gone 32 = .ok (.iload_n 2, 1) := by decide +kernel
theorem dX12_gone_33 : decode cX12_gone 33 = .ok (.aload_n 0, 1) := by decide +kernel
theorem dX12_gone_34 : decode cX12_gone 34 = .ok (.getfield 115, 3) := by decide +kernel
theorem dX12_gone_37 : decode cX12_gone 37 = .ok (.iload_n 2, 1) := by decide +kernel
theorem dX12_gone_38 : decode cX12_gone 38 = .ok (.iconst 1, 1) := by decide +kernel
theorem dX12_gone_39 : decode cX12_gone 39 = .ok (.iadd, 1) := by decide +kernel
theorem dX12_gone_40 : decode cX12_gone 40 = .ok (.iaload, 1) := by decide +kernel
theorem dX12_gone_41 : decode cX12_gone 41 = .ok (.iastore, 1) := by decide +kernel
theorem dX12_gone_42 : decode cX12_gone 42 = .ok (.aload_n 0, 1) := by decide +kernel
theorem dX12_gone_43 : decode cX12_gone 43 = .ok (.getfield 118, 3) := by decide +kernel
theorem dX12_gone_46 : decode cX12_gone 46 = .ok (.iload_n 2, 1) := by decide +kernel
theorem dX12_gone_47 : decode cX12_gone 47 = .ok (.aload_n 0, 1) := by decide +kernel
theorem dX12_gone_48 : decode cX12_gone 48 = .ok (.getfield 118, 3) := by decide +kernel
theorem dX12_gone_51 : decode cX12_gone 51 = .ok (.iload_n 2, 1) := by decide +kernel
theorem dX12_gone_52 : decode cX12_gone 52 = .ok (.iconst 1, 1) := by decide +kernel
theorem dX12_gone_53 : decode cX12_gone 53 = .ok (.iadd, 1) := by decide +kernel
theorem dX12_gone_54 : decode cX12_gone 54 = .ok (.iaload, 1) := by decide +kernel
theorem dX12_gone_55 : decode cX12_gone 55 = .ok (.iastore, 1) := by decide +kernel
theorem dX12_gone_56 : decode cX12_gone 56 = .ok (.aload_n 0, 1) := by decide +kernel
theorem dX12_gone_57 : decode cX12_gone 57 = .ok (.getfield 121, 3) := by decide +kernel
theorem dX12_gone_60 : decode cX12_gone 60 = .ok (.iload_n 2, 1) := by decide +kernel
theorem dX12_gone_61 : decode cX12_gone 61 = .ok (.aload_n 0, 1) := by decide +kernel
theorem dX12_gone_62 : decode cX12_gone 62 = .ok (.getfield 121, 3) := by decide +kernel
theorem dX12_gone_65 : decode cX12_gone 65 = .ok (.iload_n 2, 1) := by decide +kernel
theorem dX12_gone_66 : decode cX12_gone 66 = .ok (.iconst 1, 1) := by decide +kernel
theorem dX12_gone_67 : decode cX12_gone 67 = .ok (.iadd, 1) := by decide +kernel
theorem dX12_gone_68 : decode cX12_gone 68 = .ok (.iaload, 1) := by decide +kernel
theorem dX12_gone_69 : decode cX12_gone 69 = .ok (.iastore, 1) := by decide +kernel
theorem dX12_gone_70 : decode cX12_gone 70 = .ok (.iinc 2 1, 3) := by decide +kernel
theorem dX12_gone_73 : decode cX12_gone 73 = .ok (.goto (-55), 3) := by decide +kernel
theorem dX12_gone_76 : decode cX12_gone 76 = .ok (.aload_n 0, 1) := by decide +kernel
theorem dX12_gone_77 : decode cX12_gone 77 = .ok (.aload_n 0, 1) := by decide +kernel
theorem dX12_gone_78 : decode cX12_gone 78 = .ok (.getfield 469, 3) := by decide +kernel
theorem dX12_gone_81 : decode cX12_gone 81 = .ok (.iconst 1, 1) := by decide +kernel
theorem dX12_gone_82 : decode cX12_gone 82 = .ok (.isub, 1) := by decide +kernel
theorem dX12_gone_83 : decode cX12_gone 83 = .ok (.putfield 469, 3) := by decide +kernel
theorem dX12_gone_86 : decode cX12_gone 86 = .ok (.iconst 1, 1) := by decide +kernel
theorem dX12_gone_87 : decode cX12_gone 87 = .ok (.ireturn, 1) := by decide +kernel
theorem dX12_squareOf_0 : decode cX12_squareOf 0 = .ok (.aload_n 0, 1) := by decide +kernel
theorem dX12_squareOf_1 : decode cX12_squareOf 1 = .ok (.getfield 118, 3) := by decide +kernel
theorem dX12_squareOf_4 : decode cX12_squareOf 4 = .ok (.iload_n 1, 1) := by decide +kernel
theorem dX12_squareOf_5 : decode cX12_squareOf 5 = .ok (.iaload, 1) := by decide +kernel
theorem dX12_squareOf_6 : decode cX12_squareOf 6 = .ok (.aload_n 0, 1) := by decide +kernel
theorem dX12_squareOf_7 : decode cX12_squareOf 7 = .ok (.getfield 149, 3) := by decide +kernel
theorem dX12_squareOf_10 : decode cX12_squareOf 10 = .ok (.isub, 1) := by decide +kernel
theorem dX12_squareOf_11 : decode cX12_squareOf 11 = .ok (.invokestatic 472, 3) := by decide +kernel
theorem dX12_squareOf_14 : decode cX12_squareOf 14 = .ok (.aload_n 0, 1) := by decide +kernel
theorem dX12_squareOf_15 : decode cX12_squareOf 15 = .ok (.getfield 118, 3) := by decide +kernel
theorem dX12_squareOf_18 : decode cX12_squareOf 18 = .ok (.iload_n 1, 1) := by decide +kernel
theorem dX12_squareOf_19 : decode cX12_squareOf 19 = .ok (.iaload, 1) := by decide +kernel
theorem dX12_squareOf_20 : decode cX12_squareOf 20 = .ok (.aload_n 0, 1) := by decide +kernel
theorem dX12_squareOf_21 : decode cX12_squareOf 21 = .ok (.getfield 149, 3) := by decide +kernel
theorem dX12_squareOf_24 : decode cX12_squareOf 24 = .ok (.isub, 1) := by decide +kernel
theorem dX12_squareOf_25 : decode cX12_squareOf 25 = .ok (.invokestatic 472, 3) := by decide +kernel
theorem dX12_squareOf_28 : decode cX12_squareOf 28 = .ok (.imul, 1) := by decide +kernel
theorem dX12_squareOf_29 : decode cX12_squareOf 29 = .ok (.aload_n 0, 1) := by decide +kernel
theorem dX12_squareOf_30 : decode cX12_squareOf 30 = .ok (.getfield 121, 3) := by decide +kernel
theorem dX12_squareOf_33 : decode cX12_squareOf 33 = .ok (.iload_n 1, 1) := by decide +kernel
theorem dX12_squareOf_34 : decode cX12_squareOf 34 = .ok (.iaload, 1) := by decide +kernel
theorem dX12_squareOf_35 : decode cX12_squareOf 35 = .ok (.aload_n 0, 1) := by decide +kernel
theorem dX12_squareOf_36 : decode cX12_squareOf 36 = .ok (.getfield 152, 3) := by decide +kernel
theorem dX12_squareOf_39 : decode cX12_squareOf 39 = .ok (.isub, 1) := by decide +kernel
theorem dX12_squareOf_40 : decode cX12_squareOf 40 = .ok (.invokestatic 472, 3) := by decide +kernel
theorem dX12_squareOf_43 : decode cX12_squareOf 43 = .ok (.aload_n 0, 1) := by decide +kernel
theorem dX12_squareOf_44 : decode cX12_squareOf 44 = .ok (.getfield 121, 3) := by decide +kernel
theorem dX12_squareOf_47 : decode cX12_squareOf 47 = .ok (.iload_n 1, 1) := by decide +kernel
theorem dX12_squareOf_48 : decode cX12_squareOf 48 = .ok (.iaload, 1) := by decide +kernel
theorem dX12_squareOf_49 : decode cX12_squareOf 49 = .ok (.aload_n 0, 1) := by decide +kernel
theorem dX12_squareOf_50 : decode cX12_squareOf 50 = .ok (.getfield 152, 3) := by decide +kernel
theorem dX12_squareOf_53 : decode cX12_squareOf 53 = .ok (.isub, 1) := by decide +kernel
theorem dX12_squareOf_54 : decode cX12_squareOf 54 = .ok (.invokestatic 472, 3) := by decide +kernel
theorem dX12_squareOf_57 : decode cX12_squareOf 57 = .ok (.imul, 1) := by decide +kernel
theorem dX12_squareOf_58 : decode cX12_squareOf 58 = .ok (.iadd, 1) := by decide +kernel
theorem dX12_squareOf_59 : decode cX12_squareOf 59 = .ok (.ireturn, 1) := by decide +kernel
theorem dX12_nearest_0 : decode cX12_nearest 0 = .ok (.iconst (-1), 1) := by decide +kernel
theorem dX12_nearest_1 : decode cX12_nearest 1 = .ok (.istore_n 3, 1) := by decide +kernel
theorem dX12_nearest_2 : decode cX12_nearest 2 = .ok (.iconst 0, 1) := by decide +kernel
theorem dX12_nearest_3 : decode cX12_nearest 3 = .ok (.istore 4, 2) := by decide +kernel
theorem dX12_nearest_5 : decode cX12_nearest 5 = .ok (.iload 4, 2) := by decide +kernel
theorem dX12_nearest_7 : decode cX12_nearest 7 = .ok (.aload_n 0, 1) := by decide +kernel
theorem dX12_nearest_8 : decode cX12_nearest 8 = .ok (.getfield 469, 3) := by decide +kernel
theorem dX12_nearest_11 : decode cX12_nearest 11 = .ok (.if_icmp .ge 56, 3) := by decide +kernel
theorem dX12_nearest_14 : decode cX12_nearest 14 = .ok (.iload 4, 2) := by decide +kernel
theorem dX12_nearest_16 : decode cX12_nearest 16 = .ok (.iload_n 2, 1) := by decide +kernel
theorem dX12_nearest_17 : decode cX12_nearest 17 = .ok (.if_icmp .eq 44, 3) := by decide +kernel
theorem dX12_nearest_20 : decode cX12_nearest 20 = .ok (.iload_n 1, 1) := by decide +kernel
theorem dX12_nearest_21 : decode cX12_nearest 21 = .ok (.iconst (-1), 1) := by decide +kernel
theorem dX12_nearest_22 : decode cX12_nearest 22 = .ok (.if_icmp .eq 17, 3) := by decide +kernel
theorem dX12_nearest_25 : decode cX12_nearest 25 = .ok (.aload_n 0, 1) := by decide +kernel
theorem dX12_nearest_26 : decode cX12_nearest 26 = .ok (.getfield 115, 3) := by decide +kernel
theorem dX12_nearest_29 : decode cX12_nearest 29 = .ok (.iload 4, 2) := by decide +kernel
theorem dX12_nearest_31 : decode cX12_nearest 31 = .ok (.iaload, 1) := by decide +kernel
theorem dX12_nearest_32 : decode cX12_nearest 32 = .ok (.iload_n 1, 1) := by decide +kernel
theorem dX12_nearest_33 : decode cX12_nearest 33 = .ok (.if_icmp .eq 6, 3) := by decide +kernel
theorem dX12_nearest_36 : decode cX12_nearest 36 = .ok (.goto 25, 3) := by decide +kernel
theorem dX12_nearest_39 : decode cX12_nearest 39 = .ok (.iload_n 3, 1) := by decide +kernel
theorem dX12_nearest_40 : decode cX12_nearest 40 = .ok (.iconst (-1), 1) := by decide +kernel
theorem dX12_nearest_41 : decode cX12_nearest 41 = .ok (.if_icmp .eq 17, 3) := by decide +kernel
theorem dX12_nearest_44 : decode cX12_nearest 44 = .ok (.aload_n 0, 1) := by decide +kernel
theorem dX12_nearest_45 : decode cX12_nearest 45 = .ok (.iload 4, 2) := by decide +kernel
theorem dX12_nearest_47 : decode cX12_nearest 47 = .ok (.invokevirtual 475, 3) := by decide +kernel
theorem dX12_nearest_50 : decode cX12_nearest 50 = .ok (.aload_n 0, 1) := by decide +kernel
theorem dX12_nearest_51 : decode cX12_nearest 51 = .ok (.iload_n 3, 1) := by decide +kernel
theorem dX12_nearest_52 : decode cX12_nearest 52 = .ok (.invokevirtual 475, 3) := by decide +kernel
theorem dX12_nearest_55 : decode cX12_nearest 55 = .ok (.if_icmp .ge 6, 3) := by decide +kernel
theorem dX12_nearest_58 : decode cX12_nearest 58 = .ok (.iload 4, 2) := by decide +kernel
theorem dX12_nearest_60 : decode cX12_nearest 60 = .ok (.istore_n 3, 1) := by decide +kernel
theorem dX12_nearest_61 : decode cX12_nearest 61 = .ok (.iinc 4 1, 3) := by decide +kernel
theorem dX12_nearest_64 : decode cX12_nearest 64 = .ok (.goto (-59), 3) := by decide +kernel
theorem dX12_nearest_67 : decode cX12_nearest 67 = .ok (.iload_n 3, 1) := by decide +kernel
theorem dX12_nearest_68 : decode cX12_nearest 68 = .ok (.ireturn, 1) := by decide +kernel
theorem dX12_nearestOf_0 : decode cX12_nearestOf 0 = .ok (.aload_n 0, 1) := by decide +kernel
theorem dX12_nearestOf_1 : decode cX12_nearestOf 1 = .ok (.iload_n 1, 1) := by decide +kernel
theorem dX12_nearestOf_2 : decode cX12_nearestOf 2 = .ok (.iload_n 2, 1) := by decide +kernel
theorem dX12_nearestOf_3 : decode cX12_nearestOf 3 = .ok (.invokevirtual 478, 3) := by decide +kernel
theorem dX12_nearestOf_6 : decode cX12_nearestOf 6 = .ok (.istore_n 3, 1) := by decide +kernel
theorem dX12_nearestOf_7 : decode cX12_nearestOf 7 = .ok (.iload_n 3, 1) := by decide +kernel
theorem dX12_nearestOf_8 : decode cX12_nearestOf 8 = .ok (.iconst (-1), 1) := by decide +kernel
theorem dX12_nearestOf_9 : decode cX12_nearestOf 9 = .ok (.if_icmp .ne 9, 3) := by decide +kernel
theorem dX12_nearestOf_12 : decode cX12_nearestOf 12 = .ok (.ldc_w 465, 3) := by decide +kernel
theorem dX12_nearestOf_15 : decode cX12_nearestOf 15 = .ok (.goto 8, 3) := by decide +kernel
theorem dX12_nearestOf_18 : decode cX12_nearestOf 18 = .ok (.aload_n 0, 1) := by decide +kernel
theorem dX12_nearestOf_19 : decode cX12_nearestOf 19 = .ok (.iload_n 3, 1) := by decide +kernel
theorem dX12_nearestOf_20 : decode cX12_nearestOf 20 = .ok (.invokevirtual 475, 3) := by decide +kernel
theorem dX12_nearestOf_23 : decode cX12_nearestOf 23 = .ok (.ireturn, 1) := by decide +kernel
theorem dX12_pointsBut_0 : decode cX12_pointsBut 0 = .ok (.aload_n 0, 1) := by decide +kernel
theorem dX12_pointsBut_1 : decode cX12_pointsBut 1 = .ok (.iconst 0, 1) := by decide +kernel
theorem dX12_pointsBut_2 : decode cX12_pointsBut 2 = .ok (.iload_n 1, 1) := by decide +kernel
theorem dX12_pointsBut_3 : decode cX12_pointsBut 3 = .ok (.invokevirtual 481, 3) := by decide +kernel
theorem dX12_pointsBut_6 : decode cX12_pointsBut 6 = .ok (.istore_n 2, 1) := by decide +kernel
theorem dX12_pointsBut_7 : decode cX12_pointsBut 7 = .ok (.aload_n 0, 1) := by decide +kernel
theorem dX12_pointsBut_8 : decode cX12_pointsBut 8 = .ok (.iconst 1, 1) := by decide +kernel
theorem dX12_pointsBut_9 : decode cX12_pointsBut 9 = .ok (.iload_n 1, 1) := by decide +kernel
theorem dX12_pointsBut_10 : decode cX12_pointsBut 10 = .ok (.invokevirtual 481, 3) := by decide +kernel
theorem dX12_pointsBut_13 : decode cX12_pointsBut 13 = .ok (.istore_n 3, 1) := by decide +kernel
theorem dX12_pointsBut_14 : decode cX12_pointsBut 14 = .ok (.iload_n 2, 1) := by decide +kernel
theorem dX12_pointsBut_15 : decode cX12_pointsBut 15 = .ok (.iload_n 3, 1) := by decide +kernel
theorem dX12_pointsBut_16 : decode cX12_pointsBut 16 = .ok (.if_icmp .ne 5, 3) := by decide +kernel
theorem dX12_pointsBut_19 : decode cX12_pointsBut 19 = .ok (.iconst 0, 1) := by decide +kernel
theorem dX12_pointsBut_20 : decode cX12_pointsBut 20 = .ok (.ireturn, 1) := by decide +kernel
theorem dX12_pointsBut_21 : decode cX12_pointsBut 21 = .ok (.iconst 0, 1) := by decide +kernel
theorem dX12_pointsBut_22 : decode cX12_pointsBut 22 = .ok (.istore 4, 2) := by decide +kernel
theorem dX12_pointsBut_24 : decode cX12_pointsBut 24 = .ok (.iconst 0, 1) := by decide +kernel
theorem dX12_pointsBut_25 : decode cX12_pointsBut 25 = .ok (.istore 5, 2) := by decide +kernel
theorem dX12_pointsBut_27 : decode cX12_pointsBut 27 = .ok (.iload 5, 2) := by decide +kernel
theorem dX12_pointsBut_29 : decode cX12_pointsBut 29 = .ok (.aload_n 0, 1) := by decide +kernel
theorem dX12_pointsBut_30 : decode cX12_pointsBut 30 = .ok (.getfield 469, 3) := by decide +kernel
theorem dX12_pointsBut_33 : decode cX12_pointsBut 33 = .ok (.if_icmp .ge 55, 3) := by decide +kernel
theorem dX12_pointsBut_36 : decode cX12_pointsBut 36 = .ok (.iload 5, 2) := by decide +kernel
theorem dX12_pointsBut_38 : decode cX12_pointsBut 38 = .ok (.iload_n 1, 1) := by decide +kernel
theorem dX12_pointsBut_39 : decode cX12_pointsBut 39 = .ok (.if_icmp .eq 43, 3) := by decide +kernel
theorem dX12_pointsBut_42 : decode cX12_pointsBut 42 = .ok (.aload_n 0, 1) := by decide +kernel
theorem dX12_pointsBut_43 : decode cX12_pointsBut 43 = .ok (.getfield 115, 3) := by decide +kernel
theorem dX12_pointsBut_46 : decode cX12_pointsBut 46 = .ok (.iload 5, 2) := by decide +kernel
theorem dX12_pointsBut_48 : decode cX12_pointsBut 48 = .ok (.iaload, 1) := by decide +kernel
theorem dX12_pointsBut_49 : decode cX12_pointsBut 49 = .ok (.iload_n 2, 1) := by decide +kernel
theorem dX12_pointsBut_50 : decode cX12_pointsBut 50 = .ok (.iload_n 3, 1) := by decide +kernel
theorem dX12_pointsBut_51 : decode cX12_pointsBut 51 = .ok (.if_icmp .ge 7, 3) := by decide +kernel
theorem dX12_pointsBut_54 : decode cX12_pointsBut 54 = .ok (.iconst 0, 1) := by decide +kernel
theorem dX12_pointsBut_55 : decode cX12_pointsBut 55 = .ok (.goto 4, 3) := by decide +kernel
theorem dX12_pointsBut_58 : decode cX12_pointsBut 58 = .ok (.iconst 1, 1) := by decide +kernel
theorem dX12_pointsBut_59 : decode cX12_pointsBut 59 = .ok (.if_icmp .ne 23, 3) := by decide +kernel
theorem dX12_pointsBut_62 : decode cX12_pointsBut 62 = .ok (.aload_n 0, 1) := by decide +kernel
theorem dX12_pointsBut_63 : decode cX12_pointsBut 63 = .ok (.iload 5, 2) := by decide +kernel
theorem dX12_pointsBut_65 : decode cX12_pointsBut 65 = .ok (.invokevirtual 475, 3) := by decide +kernel
theorem dX12_pointsBut_68 : decode cX12_pointsBut 68 = .ok (.iload_n 2, 1) := by decide +kernel
theorem dX12_pointsBut_69 : decode cX12_pointsBut 69 = .ok (.iload_n 3, 1) := by decide +kernel
theorem dX12_pointsBut_70 : decode cX12_pointsBut 70 = .ok (.invokestatic 445, 3) := by decide +kernel
theorem dX12_pointsBut_73 : decode cX12_pointsBut 73 = .ok (.if_icmp .ge 9, 3) := by decide +kernel
theorem dX12_pointsBut_76 : decode cX12_pointsBut 76 = .ok (.iload 4, 2) := by decide +kernel
theorem dX12_pointsBut_78 : decode cX12_pointsBut 78 = .ok (.iconst 1, 1) := by decide +kernel
theorem dX12_pointsBut_79 : decode cX12_pointsBut 79 = .ok (.iadd, 1) := by decide +kernel
theorem dX12_pointsBut_80 : decode cX12_pointsBut 80 = .ok (.istore 4, 2) := by decide +kernel
theorem dX12_pointsBut_82 : decode cX12_pointsBut 82 = .ok (.iinc 5 1, 3) := by decide +kernel
theorem dX12_pointsBut_85 : decode cX12_pointsBut 85 = .ok (.goto (-58), 3) := by decide +kernel
theorem dX12_pointsBut_88 : decode cX12_pointsBut 88 = .ok (.iload_n 2, 1) := by decide +kernel
theorem dX12_pointsBut_89 : decode cX12_pointsBut 89 = .ok (.iload_n 3, 1) := by decide +kernel
theorem dX12_pointsBut_90 : decode cX12_pointsBut 90 = .ok (.if_icmp .ge 8, 3) := by decide +kernel
theorem dX12_pointsBut_93 : decode cX12_pointsBut 93 = .ok (.iload 4, 2) := by decide +kernel
theorem dX12_pointsBut_95 : decode cX12_pointsBut 95 = .ok (.goto 6, 3) := by decide +kernel
theorem dX12_pointsBut_98 : decode cX12_pointsBut 98 = .ok (.iload 4, 2) := by decide +kernel
theorem dX12_pointsBut_100 : decode cX12_pointsBut 100 = .ok (.ineg, 1) := by decide +kernel
theorem dX12_pointsBut_101 : decode cX12_pointsBut 101 = .ok (.ireturn, 1) := by decide +kernel
theorem dX12_measured_0 : decode cX12_measured 0 = .ok (.iload_n 1, 1) := by decide +kernel
theorem dX12_measured_1 : decode cX12_measured 1 = .ok (.iconst 0, 1) := by decide +kernel
theorem dX12_measured_2 : decode cX12_measured 2 = .ok (.iconst 3, 1) := by decide +kernel
theorem dX12_measured_3 : decode cX12_measured 3 = .ok (.invokestatic 173, 3) := by decide +kernel
theorem dX12_measured_6 : decode cX12_measured 6 = .ok (.ifCond .ne 6, 3) := by decide +kernel
theorem dX12_measured_9 : decode cX12_measured 9 = .ok (.bipush (-100), 2) := by decide +kernel
theorem dX12_measured_11 : decode cX12_measured 11 = .ok (.ireturn, 1) := by decide +kernel
theorem dX12_measured_12 : decode cX12_measured 12 = .ok (.aload_n 0, 1) := by decide +kernel
theorem dX12_measured_13 : decode cX12_measured 13 = .ok (.iconst 0, 1) := by decide +kernel
theorem dX12_measured_14 : decode cX12_measured 14 = .ok (.iconst (-1), 1) := by decide +kernel
theorem dX12_measured_15 : decode cX12_measured 15 = .ok (.invokevirtual 481, 3) := by decide +kernel
theorem dX12_measured_18 : decode cX12_measured 18 = .ok (.istore_n 2, 1) := by decide +kernel
theorem dX12_measured_19 : decode cX12_measured 19 = .ok (.aload_n 0, 1) := by decide +kernel
theorem dX12_measured_20 : decode cX12_measured 20 = .ok (.iconst 1, 1) := by decide +kernel
theorem dX12_measured_21 : decode cX12_measured 21 = .ok (.iconst (-1), 1) := by decide +kernel
theorem dX12_measured_22 : decode cX12_measured 22 = .ok (.invokevirtual 481, 3) := by decide +kernel
theorem dX12_measured_25 : decode cX12_measured 25 = .ok (.istore_n 3, 1) := by decide +kernel
theorem dX12_measured_26 : decode cX12_measured 26 = .ok (.aload_n 0, 1) := by decide +kernel
theorem dX12_measured_27 : decode cX12_measured 27 = .ok (.iconst (-1), 1) := by decide +kernel
theorem dX12_measured_28 : decode cX12_measured 28 = .ok (.iconst (-1), 1) := by decide +kernel
theorem dX12_measured_29 : decode cX12_measured 29 = .ok (.invokevirtual 478, 3) := by decide +kernel
theorem dX12_measured_32 : decode cX12_measured 32 = .ok (.istore 4, 2) := by decide +kernel
theorem dX12_measured_34 : decode cX12_measured 34 = .ok (.iload_n 1, 1) := by decide +kernel
theorem dX12_measured_35 : decode cX12_measured 35 = .ok (.tableswitch 66 0 2 #[25, 46, 52], 25) := by decide +kernel
theorem dX12_measured_60 : decode cX12_measured 60 = .ok (.iload_n 2, 1) := by decide +kernel
theorem dX12_measured_61 : decode cX12_measured 61 = .ok (.iload_n 3, 1) := by decide +kernel
theorem dX12_measured_62 : decode cX12_measured 62 = .ok (.if_icmp .ne 8, 3) := by decide +kernel
theorem dX12_measured_65 : decode cX12_measured 65 = .ok (.bipush (-2), 2) := by decide +kernel
theorem dX12_measured_67 : decode cX12_measured 67 = .ok (.goto 13, 3) := by decide +kernel
theorem dX12_measured_70 : decode cX12_measured 70 = .ok (.iload_n 2, 1) := by decide +kernel
theorem dX12_measured_71 : decode cX12_measured 71 = .ok (.iload_n 3, 1) := by decide +kernel
theorem dX12_measured_72 : decode cX12_measured 72 = .ok (.if_icmp .ge 7, 3) := by decide +kernel
theorem dX12_measured_75 : decode cX12_measured 75 = .ok (.iconst 0, 1) := by decide +kernel
theorem dX12_measured_76 : decode cX12_measured 76 = .ok (.goto 4, 3) := by decide +kernel
theorem dX12_measured_79 : decode cX12_measured 79 = .ok (.iconst 1, 1) := by decide +kernel
theorem dX12_measured_80 : decode cX12_measured 80 = .ok (.ireturn, 1) := by decide +kernel
theorem dX12_measured_81 : decode cX12_measured 81 = .ok (.aload_n 0, 1) := by decide +kernel
theorem dX12_measured_82 : decode cX12_measured 82 = .ok (.iconst (-1), 1) := by decide +kernel
theorem dX12_measured_83 : decode cX12_measured 83 = .ok (.invokevirtual 484, 3) := by decide +kernel
theorem dX12_measured_86 : decode cX12_measured 86 = .ok (.ireturn, 1) := by decide +kernel
theorem dX12_measured_87 : decode cX12_measured 87 = .ok (.iload 4, 2) := by decide +kernel
theorem dX12_measured_89 : decode cX12_measured 89 = .ok (.iconst (-1), 1) := by decide +kernel
theorem dX12_measured_90 : decode cX12_measured 90 = .ok (.if_icmp .ne 8, 3) := by decide +kernel
theorem dX12_measured_93 : decode cX12_measured 93 = .ok (.bipush (-2), 2) := by decide +kernel
theorem dX12_measured_95 : decode cX12_measured 95 = .ok (.goto 5, 3) := by decide +kernel
theorem dX12_measured_98 : decode cX12_measured 98 = .ok (.iload 4, 2) := by decide +kernel
theorem dX12_measured_100 : decode cX12_measured 100 = .ok (.ireturn, 1) := by decide +kernel
theorem dX12_measured_101 : decode cX12_measured 101 = .ok (.iload 4, 2) := by decide +kernel
theorem dX12_measured_103 : decode cX12_measured 103 = .ok (.iconst (-1), 1) := by decide +kernel
theorem dX12_measured_104 : decode cX12_measured 104 = .ok (.if_icmp .ne 8, 3) := by decide +kernel
theorem dX12_measured_107 : decode cX12_measured 107 = .ok (.bipush (-2), 2) := by decide +kernel
theorem dX12_measured_109 : decode cX12_measured 109 = .ok (.goto 9, 3) := by decide +kernel
theorem dX12_measured_112 : decode cX12_measured 112 = .ok (.aload_n 0, 1) := by decide +kernel
theorem dX12_measured_113 : decode cX12_measured 113 = .ok (.iload 4, 2) := by decide +kernel
theorem dX12_measured_115 : decode cX12_measured 115 = .ok (.invokevirtual 475, 3) := by decide +kernel
theorem dX12_measured_118 : decode cX12_measured 118 = .ok (.ireturn, 1) := by decide +kernel
theorem dX12_toShoot_0 : decode cX12_toShoot 0 = .ok (.iload_n 1, 1) := by decide +kernel
theorem dX12_toShoot_1 : decode cX12_toShoot 1 = .ok (.invokestatic 196, 3) := by decide +kernel
theorem dX12_toShoot_4 : decode cX12_toShoot 4 = .ok (.ifCond .ne 5, 3) := by decide +kernel
theorem dX12_toShoot_7 : decode cX12_toShoot 7 = .ok (.iconst (-1), 1) := by decide +kernel
theorem dX12_toShoot_8 : decode cX12_toShoot 8 = .ok (.ireturn, 1) := by decide +kernel
theorem dX12_toShoot_9 : decode cX12_toShoot 9 = .ok (.bipush (-2), 2) := by decide +kernel
theorem dX12_toShoot_11 : decode cX12_toShoot 11 = .ok (.istore_n 2, 1) := by decide +kernel
theorem dX12_toShoot_12 : decode cX12_toShoot 12 = .ok (.ldc_w 487, 3) := by decide +kernel
theorem dX12_toShoot_15 : decode cX12_toShoot 15 = .ok (.istore_n 3, 1) := by decide +kernel
theorem dX12_toShoot_16 : decode cX12_toShoot 16 = .ok (.iconst 0, 1) := by decide +kernel
theorem dX12_toShoot_17 : decode cX12_toShoot 17 = .ok (.istore 4, 2) := by decide +kernel
theorem dX12_toShoot_19 : decode cX12_toShoot 19 = .ok (.iload 4, 2) := by decide +kernel
theorem dX12_toShoot_21 : decode cX12_toShoot 21 = .ok (.aload_n 0, 1) := by decide +kernel
theorem dX12_toShoot_22 : decode cX12_toShoot 22 = .ok (.getfield 469, 3) := by decide +kernel
theorem dX12_toShoot_25 : decode cX12_toShoot 25 = .ok (.if_icmp .ge 60, 3) := by decide +kernel
theorem dX12_toShoot_28 : decode cX12_toShoot 28 = .ok (.aload_n 0, 1) := by decide +kernel
theorem dX12_toShoot_29 : decode cX12_toShoot 29 = .ok (.getfield 115, 3) := by decide +kernel
theorem dX12_toShoot_32 : decode cX12_toShoot 32 = .ok (.iload 4, 2) := by decide +kernel
theorem dX12_toShoot_34 : decode cX12_toShoot 34 = .ok (.iaload, 1) := by decide +kernel
theorem dX12_toShoot_35 : decode cX12_toShoot 35 = .ok (.iload_n 1, 1) := by decide +kernel
theorem dX12_toShoot_36 : decode cX12_toShoot 36 = .ok (.if_icmp .ne 6, 3) := by decide +kernel
theorem dX12_toShoot_39 : decode cX12_toShoot 39 = .ok (.goto 40, 3) := by decide +kernel
theorem dX12_toShoot_42 : decode cX12_toShoot 42 = .ok (.iload_n 1, 1) := by decide +kernel
theorem dX12_toShoot_43 : decode cX12_toShoot 43 = .ok (.ifCond .ne 12, 3) := by decide +kernel
theorem dX12_toShoot_46 : decode cX12_toShoot 46 = .ok (.aload_n 0, 1) := by decide +kernel
theorem dX12_toShoot_47 : decode cX12_toShoot 47 = .ok (.iload 4, 2) := by decide +kernel
theorem dX12_toShoot_49 : decode cX12_toShoot 49 = .ok (.invokevirtual 484, 3) := by decide +kernel
theorem dX12_toShoot_52 : decode cX12_toShoot 52 = .ok (.goto 10, 3) := by decide +kernel
theorem dX12_toShoot_55 : decode cX12_toShoot 55 = .ok (.aload_n 0, 1) := by decide +kernel
theorem dX12_toShoot_56 : decode cX12_toShoot 56 = .ok (.iload 4, 2) := by decide +kernel
theorem dX12_toShoot_58 : decode cX12_toShoot 58 = .ok (.invokevirtual 484, 3) := by decide +kernel
theorem dX12_toShoot_61 : decode cX12_toShoot 61 = .ok (.ineg, 1) := by decide +kernel
theorem dX12_toShoot_62 : decode cX12_toShoot 62 = .ok (.istore 5, 2) := by decide +kernel
theorem dX12_toShoot_64 : decode cX12_toShoot 64 = .ok (.iload 5, 2) := by decide +kernel
theorem dX12_toShoot_66 : decode cX12_toShoot 66 = .ok (.iload_n 3, 1) := by decide +kernel
theorem dX12_toShoot_67 : decode cX12_toShoot 67 = .ok (.if_icmp .gt 6, 3) := by decide +kernel
theorem dX12_toShoot_70 : decode cX12_toShoot 70 = .ok (.goto 9, 3) := by decide +kernel
theorem dX12_toShoot_73 : decode cX12_toShoot 73 = .ok (.iload 5, 2) := by decide +kernel
theorem dX12_toShoot_75 : decode cX12_toShoot 75 = .ok (.istore_n 3, 1) := by decide +kernel
theorem dX12_toShoot_76 : decode cX12_toShoot 76 = .ok (.iload 4, 2) := by decide +kernel
theorem dX12_toShoot_78 : decode cX12_toShoot 78 = .ok (.istore_n 2, 1) := by decide +kernel
theorem dX12_toShoot_79 : decode cX12_toShoot 79 = .ok (.iinc 4 1, 3) := by decide +kernel
theorem dX12_toShoot_82 : decode cX12_toShoot 82 = .ok (.goto (-63), 3) := by decide +kernel
theorem dX12_toShoot_85 : decode cX12_toShoot 85 = .ok (.iload_n 2, 1) := by decide +kernel
theorem dX12_toShoot_86 : decode cX12_toShoot 86 = .ok (.ireturn, 1) := by decide +kernel
theorem dX12_seed_0 : decode cX12_seed 0 = .ok (.iload_n 1, 1) := by decide +kernel
theorem dX12_seed_1 : decode cX12_seed 1 = .ok (.iconst 0, 1) := by decide +kernel
theorem dX12_seed_2 : decode cX12_seed 2 = .ok (.ldc_w 488, 3) := by decide +kernel
theorem dX12_seed_5 : decode cX12_seed 5 = .ok (.invokestatic 173, 3) := by decide +kernel
theorem dX12_seed_8 : decode cX12_seed 8 = .ok (.ifCond .ne 5, 3) := by decide +kernel
theorem dX12_seed_11 : decode cX12_seed 11 = .ok (.iconst 0, 1) := by decide +kernel
theorem dX12_seed_12 : decode cX12_seed 12 = .ok (.ireturn, 1) := by decide +kernel
theorem dX12_seed_13 : decode cX12_seed 13 = .ok (.aload_n 0, 1) := by decide +kernel
theorem dX12_seed_14 : decode cX12_seed 14 = .ok (.iload_n 1, 1) := by decide +kernel
theorem dX12_seed_15 : decode cX12_seed 15 = .ok (.putfield 146, 3) := by decide +kernel
theorem dX12_seed_18 : decode cX12_seed 18 = .ok (.iconst 1, 1) := by decide +kernel
theorem dX12_seed_19 : decode cX12_seed 19 = .ok (.ireturn, 1) := by decide +kernel
theorem dX12_copies_0 : decode cX12_copies 0 = .ok (.iconst 0, 1) := by decide +kernel
theorem dX12_copies_1 : decode cX12_copies 1 = .ok (.istore_n 3, 1) := by decide +kernel
theorem dX12_copies_2 : decode cX12_copies 2 = .ok (.iload_n 3, 1) := by decide +kernel
theorem dX12_copies_3 : decode cX12_copies 3 = .ok (.iload_n 2, 1) := by decide +kernel
theorem dX12_copies_4 : decode cX12_copies 4 = .ok (.if_icmp .ge 15, 3) := by decide +kernel
theorem dX12_copies_7 : decode cX12_copies 7 = .ok (.aload_n 1, 1) := by decide +kernel
theorem dX12_copies_8 : decode cX12_copies 8 = .ok (.iload_n 3, 1) := by decide +kernel
theorem dX12_copies_9 : decode cX12_copies 9 = .ok (.aload_n 0, 1) := by decide +kernel
theorem dX12_copies_10 : decode cX12_copies 10 = .ok (.iload_n 3, 1) := by decide +kernel
theorem dX12_copies_11 : decode cX12_copies 11 = .ok (.iaload, 1) := by decide +kernel
theorem dX12_copies_12 : decode cX12_copies 12 = .ok (.iastore, 1) := by decide +kernel
theorem dX12_copies_13 : decode cX12_copies 13 = .ok (.iinc 3 1, 3) := by decide +kernel
theorem dX12_copies_16 : decode cX12_copies 16 = .ok (.goto (-14), 3) := by decide +kernel
theorem dX12_copies_19 : decode cX12_copies 19 = .ok (.return_, 1) := by decide +kernel
theorem dX12_keep_0 : decode cX12_keep 0 = .ok (.aload_n 0, 1) := by decide +kernel
theorem dX12_keep_1 : decode cX12_keep 1 = .ok (.iconst 1, 1) := by decide +kernel
theorem dX12_keep_2 : decode cX12_keep 2 = .ok (.putfield 489, 3) := by decide +kernel
theorem dX12_keep_5 : decode cX12_keep 5 = .ok (.aload_n 0, 1) := by decide +kernel
theorem dX12_keep_6 : decode cX12_keep 6 = .ok (.aload_n 0, 1) := by decide +kernel
theorem dX12_keep_7 : decode cX12_keep 7 = .ok (.getfield 139, 3) := by decide +kernel
theorem dX12_keep_10 : decode cX12_keep 10 = .ok (.putfield 492, 3) := by decide +kernel
theorem dX12_keep_13 : decode cX12_keep 13 = .ok (.aload_n 0, 1) := by decide +kernel
theorem dX12_keep_14 : decode cX12_keep 14 = .ok (.aload_n 0, 1) := by decide +kernel
theorem dX12_keep_15 : decode cX12_keep 15 = .ok (.getfield 146, 3) := by decide +kernel
theorem dX12_keep_18 : decode cX12_keep 18 = .ok (.putfield 495, 3) := by decide +kernel
theorem dX12_keep_21 : decode cX12_keep 21 = .ok (.aload_n 0, 1) := by decide +kernel
theorem dX12_keep_22 : decode cX12_keep 22 = .ok (.aload_n 0, 1) := by decide +kernel
theorem dX12_keep_23 : decode cX12_keep 23 = .ok (.getfield 469, 3) := by decide +kernel
theorem dX12_keep_26 : decode cX12_keep 26 = .ok (.putfield 498, 3) := by decide +kernel
theorem dX12_keep_29 : decode cX12_keep 29 = .ok (.aload_n 0, 1) := by decide +kernel
theorem dX12_keep_30 : decode cX12_keep 30 = .ok (.aload_n 0, 1) := by decide +kernel
theorem dX12_keep_31 : decode cX12_keep 31 = .ok (.getfield 149, 3) := by decide +kernel
theorem dX12_keep_34 : decode cX12_keep 34 = .ok (.putfield 501, 3) := by decide +kernel
theorem dX12_keep_37 : decode cX12_keep 37 = .ok (.aload_n 0, 1) := by decide +kernel
theorem dX12_keep_38 : decode cX12_keep 38 = .ok (.aload_n 0, 1) := by decide +kernel
theorem dX12_keep_39 : decode cX12_keep 39 = .ok (.getfield 152, 3) := by decide +kernel
theorem dX12_keep_42 : decode cX12_keep 42 = .ok (.putfield 504, 3) := by decide +kernel
theorem dX12_keep_45 : decode cX12_keep 45 = .ok (.aload_n 0, 1) := by decide +kernel
theorem dX12_keep_46 : decode cX12_keep 46 = .ok (.getfield 97, 3) := by decide +kernel
theorem dX12_keep_49 : decode cX12_keep 49 = .ok (.aload_n 0, 1) := by decide +kernel
theorem dX12_keep_50 : decode cX12_keep 50 = .ok (.getfield 124, 3) := by decide +kernel
theorem dX12_keep_53 : decode cX12_keep 53 = .ok (.iconst 5, 1) := by decide +kernel
theorem dX12_keep_54 : decode cX12_keep 54 = .ok (.invokestatic 507, 3) := by decide +kernel
theorem dX12_keep_57 : decode cX12_keep 57 = .ok (.aload_n 0, 1) := by decide +kernel
theorem dX12_keep_58 : decode cX12_keep 58 = .ok (.getfield 100, 3) := by decide +kernel
theorem dX12_keep_61 : decode cX12_keep 61 = .ok (.aload_n 0, 1) := by decide +kernel
theorem dX12_keep_62 : decode cX12_keep 62 = .ok (.getfield 127, 3) := by decide +kernel
theorem dX12_keep_65 : decode cX12_keep 65 = .ok (.iconst 5, 1) := by decide +kernel
theorem dX12_keep_66 : decode cX12_keep 66 = .ok (.invokestatic 507, 3) := by decide +kernel
theorem dX12_keep_69 : decode cX12_keep 69 = .ok (.aload_n 0, 1) := by decide +kernel
theorem dX12_keep_70 : decode cX12_keep 70 = .ok (.getfield 115, 3) := by decide +kernel
theorem dX12_keep_73 : decode cX12_keep 73 = .ok (.aload_n 0, 1) := by decide +kernel
theorem dX12_keep_74 : decode cX12_keep 74 = .ok (.getfield 130, 3) := by decide +kernel
theorem dX12_keep_77 : decode cX12_keep 77 = .ok (.bipush 12, 2) := by decide +kernel
theorem dX12_keep_79 : decode cX12_keep 79 = .ok (.invokestatic 507, 3) := by decide +kernel
theorem dX12_keep_82 : decode cX12_keep 82 = .ok (.aload_n 0, 1) := by decide +kernel
theorem dX12_keep_83 : decode cX12_keep 83 = .ok (.getfield 118, 3) := by decide +kernel
theorem dX12_keep_86 : decode cX12_keep 86 = .ok (.aload_n 0, 1) := by decide +kernel
theorem dX12_keep_87 : decode cX12_keep 87 = .ok (.getfield 133, 3) := by decide +kernel
theorem dX12_keep_90 : decode cX12_keep 90 = .ok (.bipush 12, 2) := by decide +kernel
theorem dX12_keep_92 : decode cX12_keep 92 = .ok (.invokestatic 507, 3) := by decide +kernel
theorem dX12_keep_95 : decode cX12_keep 95 = .ok (.aload_n 0, 1) := by decide +kernel
theorem dX12_keep_96 : decode cX12_keep 96 = .ok (.getfield 121, 3) := by decide +kernel
theorem dX12_keep_99 : decode cX12_keep 99 = .ok (.aload_n 0, 1) := by decide +kernel
theorem dX12_keep_100 : decode cX12_keep 100 = .ok (.getfield 136, 3) := by decide +kernel
theorem dX12_keep_103 : decode cX12_keep 103 = .ok (.bipush 12, 2) := by decide +kernel
theorem dX12_keep_105 : decode cX12_keep 105 = .ok (.invokestatic 507, 3) := by decide +kernel
theorem dX12_keep_108 : decode cX12_keep 108 = .ok (.aload_n 0, 1) := by decide +kernel
theorem dX12_keep_109 : decode cX12_keep 109 = .ok (.invokevirtual 442, 3) := by decide +kernel
theorem dX12_keep_112 : decode cX12_keep 112 = .ok (.ireturn, 1) := by decide +kernel
theorem dX12_undo_0 : decode cX12_undo 0 = .ok (.aload_n 0, 1) := by decide +kernel
theorem dX12_undo_1 : decode cX12_undo 1 = .ok (.getfield 489, 3) := by decide +kernel
theorem dX12_undo_4 : decode cX12_undo 4 = .ok (.ifCond .ne 5, 3) := by decide +kernel
theorem dX12_undo_7 : decode cX12_undo 7 = .ok (.iconst 0, 1) := by decide +kernel
theorem dX12_undo_8 : decode cX12_undo 8 = .ok (.ireturn, 1) := by decide +kernel
theorem dX12_undo_9 : decode cX12_undo 9 = .ok (.aload_n 0, 1) := by decide +kernel
theorem dX12_undo_10 : decode cX12_undo 10 = .ok (.aload_n 0, 1) := by decide +kernel
theorem dX12_undo_11 : decode cX12_undo 11 = .ok (.getfield 492, 3) := by decide +kernel
theorem dX12_undo_14 : decode cX12_undo 14 = .ok (.putfield 139, 3) := by decide +kernel
theorem dX12_undo_17 : decode cX12_undo 17 = .ok (.aload_n 0, 1) := by decide +kernel
theorem dX12_undo_18 : decode cX12_undo 18 = .ok (.aload_n 0, 1) := by decide +kernel
theorem dX12_undo_19 : decode cX12_undo 19 = .ok (.getfield 492, 3) := by decide +kernel
theorem dX12_undo_22 : decode cX12_undo 22 = .ok (.putfield 143, 3) := by decide +kernel
theorem dX12_undo_25 : decode cX12_undo 25 = .ok (.aload_n 0, 1) := by decide +kernel
theorem dX12_undo_26 : decode cX12_undo 26 = .ok (.aload_n 0, 1) := by decide +kernel
theorem dX12_undo_27 : decode cX12_undo 27 = .ok (.getfield 495, 3) := by decide +kernel
theorem dX12_undo_30 : decode cX12_undo 30 = .ok (.putfield 146, 3) := by decide +kernel
theorem dX12_undo_33 : decode cX12_undo 33 = .ok (.aload_n 0, 1) := by decide +kernel
theorem dX12_undo_34 : decode cX12_undo 34 = .ok (.aload_n 0, 1) := by decide +kernel
theorem dX12_undo_35 : decode cX12_undo 35 = .ok (.getfield 498, 3) := by decide +kernel
theorem dX12_undo_38 : decode cX12_undo 38 = .ok (.putfield 469, 3) := by decide +kernel
theorem dX12_undo_41 : decode cX12_undo 41 = .ok (.aload_n 0, 1) := by decide +kernel
theorem dX12_undo_42 : decode cX12_undo 42 = .ok (.aload_n 0, 1) := by decide +kernel
theorem dX12_undo_43 : decode cX12_undo 43 = .ok (.getfield 501, 3) := by decide +kernel
theorem dX12_undo_46 : decode cX12_undo 46 = .ok (.putfield 149, 3) := by decide +kernel
theorem dX12_undo_49 : decode cX12_undo 49 = .ok (.aload_n 0, 1) := by decide +kernel
theorem dX12_undo_50 : decode cX12_undo 50 = .ok (.aload_n 0, 1) := by decide +kernel
theorem dX12_undo_51 : decode cX12_undo 51 = .ok (.getfield 504, 3) := by decide +kernel
theorem dX12_undo_54 : decode cX12_undo 54 = .ok (.putfield 152, 3) := by decide +kernel
theorem dX12_undo_57 : decode cX12_undo 57 = .ok (.aload_n 0, 1) := by decide +kernel
theorem dX12_undo_58 : decode cX12_undo 58 = .ok (.getfield 124, 3) := by decide +kernel
theorem dX12_undo_61 : decode cX12_undo 61 = .ok (.aload_n 0, 1) := by decide +kernel
theorem dX12_undo_62 : decode cX12_undo 62 = .ok (.getfield 97, 3) := by decide +kernel
theorem dX12_undo_65 : decode cX12_undo 65 = .ok (.iconst 5, 1) := by decide +kernel
theorem dX12_undo_66 : decode cX12_undo 66 = .ok (.invokestatic 507, 3) := by decide +kernel
theorem dX12_undo_69 : decode cX12_undo 69 = .ok (.aload_n 0, 1) := by decide +kernel
theorem dX12_undo_70 : decode cX12_undo 70 = .ok (.getfield 127, 3) := by decide +kernel
theorem dX12_undo_73 : decode cX12_undo 73 = .ok (.aload_n 0, 1) := by decide +kernel
theorem dX12_undo_74 : decode cX12_undo 74 = .ok (.getfield 100, 3) := by decide +kernel
theorem dX12_undo_77 : decode cX12_undo 77 = .ok (.iconst 5, 1) := by decide +kernel
theorem dX12_undo_78 : decode cX12_undo 78 = .ok (.invokestatic 507, 3) := by decide +kernel
theorem dX12_undo_81 : decode cX12_undo 81 = .ok (.aload_n 0, 1) := by decide +kernel
theorem dX12_undo_82 : decode cX12_undo 82 = .ok (.getfield 130, 3) := by decide +kernel
theorem dX12_undo_85 : decode cX12_undo 85 = .ok (.aload_n 0, 1) := by decide +kernel
theorem dX12_undo_86 : decode cX12_undo 86 = .ok (.getfield 115, 3) := by decide +kernel
theorem dX12_undo_89 : decode cX12_undo 89 = .ok (.bipush 12, 2) := by decide +kernel
theorem dX12_undo_91 : decode cX12_undo 91 = .ok (.invokestatic 507, 3) := by decide +kernel
theorem dX12_undo_94 : decode cX12_undo 94 = .ok (.aload_n 0, 1) := by decide +kernel
theorem dX12_undo_95 : decode cX12_undo 95 = .ok (.getfield 133, 3) := by decide +kernel
theorem dX12_undo_98 : decode cX12_undo 98 = .ok (.aload_n 0, 1) := by decide +kernel
theorem dX12_undo_99 : decode cX12_undo 99 = .ok (.getfield 118, 3) := by decide +kernel
theorem dX12_undo_102 : decode cX12_undo 102 = .ok (.bipush 12, 2) := by decide +kernel
theorem dX12_undo_104 : decode cX12_undo 104 = .ok (.invokestatic 507, 3) := by decide +kernel
theorem dX12_undo_107 : decode cX12_undo 107 = .ok (.aload_n 0, 1) := by decide +kernel
theorem dX12_undo_108 : decode cX12_undo 108 = .ok (.getfield 136, 3) := by decide +kernel
theorem dX12_undo_111 : decode cX12_undo 111 = .ok (.aload_n 0, 1) := by decide +kernel
theorem dX12_undo_112 : decode cX12_undo 112 = .ok (.getfield 121, 3) := by decide +kernel
theorem dX12_undo_115 : decode cX12_undo 115 = .ok (.bipush 12, 2) := by decide +kernel
theorem dX12_undo_117 : decode cX12_undo 117 = .ok (.invokestatic 507, 3) := by decide +kernel
theorem dX12_undo_120 : decode cX12_undo 120 = .ok (.aload_n 0, 1) := by decide +kernel
theorem dX12_undo_121 : decode cX12_undo 121 = .ok (.iconst (-1), 1) := by decide +kernel
theorem dX12_undo_122 : decode cX12_undo 122 = .ok (.putfield 155, 3) := by decide +kernel
theorem dX12_undo_125 : decode cX12_undo 125 = .ok (.iconst 1, 1) := by decide +kernel
theorem dX12_undo_126 : decode cX12_undo 126 = .ok (.ireturn, 1) := by decide +kernel
theorem dX12_tapeNumber_0 : decode cX12_tapeNumber 0 = .ok (.iconst 0, 1) := by decide +kernel
theorem dX12_tapeNumber_1 : decode cX12_tapeNumber 1 = .ok (.istore_n 2, 1) := by decide +kernel
theorem dX12_tapeNumber_2 : decode cX12_tapeNumber 2 = .ok (.iconst 4, 1) := by decide +kernel
theorem dX12_tapeNumber_3 : decode cX12_tapeNumber 3 = .ok (.iload_n 1, 1) := by decide +kernel
theorem dX12_tapeNumber_4 : decode cX12_tapeNumber 4 = .ok (.imul, 1) := by decide +kernel
theorem dX12_tapeNumber_5 : decode cX12_tapeNumber 5 = .ok (.istore_n 3, 1) := by decide +kernel
theorem dX12_tapeNumber_6 : decode cX12_tapeNumber 6 = .ok (.iload_n 3, 1) := by decide +kernel
theorem dX12_tapeNumber_7 : decode cX12_tapeNumber 7 = .ok (.iconst 4, 1) := by decide +kernel
theorem dX12_tapeNumber_8 : decode cX12_tapeNumber 8 = .ok (.iload_n 1, 1) := by decide +kernel
theorem dX12_tapeNumber_9 : decode cX12_tapeNumber 9 = .ok (.imul, 1) := by decide +kernel
theorem dX12_tapeNumber_10 : decode cX12_tapeNumber 10 = .ok (.iconst 4, 1) := by decide +kernel
theorem dX12_tapeNumber_11 : decode cX12_tapeNumber 11 = .ok (.iadd, 1) := by decide +kernel
theorem dX12_tapeNumber_12 : decode cX12_tapeNumber 12 = .ok (.if_icmp .ge 25, 3) := by decide +kernel
theorem dX12_tapeNumber_15 : decode cX12_tapeNumber 15 = .ok (.iload_n 2, 1) := by decide +kernel
theorem dX12_tapeNumber_16 : decode cX12_tapeNumber 16 = .ok (.bipush 8, 2) := by decide +kernel
theorem dX12_tapeNumber_18 : decode cX12_tapeNumber 18 = .ok (.ishl, 1) := by decide +kernel
theorem dX12_tapeNumber_19 : decode cX12_tapeNumber 19 = .ok (.aload_n 0, 1) := by decide +kernel
theorem dX12_tapeNumber_20 : decode cX12_tapeNumber 20 = .ok (.getfield 19, 3) := by decide +kernel
theorem dX12_tapeNumber_23 : decode cX12_tapeNumber 23 = .ok (.iload_n 3, 1) := by decide +kernel
theorem dX12_tapeNumber_24 : decode cX12_tapeNumber 24 = .ok (.baload, 1) := by decide +kernel
theorem dX12_tapeNumber_25 : decode cX12_tapeNumber 25 = .ok (.sipush 255, 3) := by decide +kernel
theorem dX12_tapeNumber_28 : decode cX12_tapeNumber 28 = .ok (.iand, 1) := by decide +kernel
theorem dX12_tapeNumber_29 : decode cX12_tapeNumber 29 = .ok (.ior, 1) := by decide +kernel
theorem dX12_tapeNumber_30 : decode cX12_tapeNumber 30 = .ok (.istore_n 2, 1) := by decide +kernel
theorem dX12_tapeNumber_31 : decode cX12_tapeNumber 31 = .ok (.iinc 3 1, 3) := by decide +kernel
theorem dX12_tapeNumber_34 : decode cX12_tapeNumber 34 = .ok (.goto (-28), 3) := by decide +kernel
theorem dX12_tapeNumber_37 : decode cX12_tapeNumber 37 = .ok (.iload_n 2, 1) := by decide +kernel
theorem dX12_tapeNumber_38 : decode cX12_tapeNumber 38 = .ok (.ireturn, 1) := by decide +kernel
theorem dX12_check_0 : decode cX12_check 0 = .ok (.iload_n 1, 1) := by decide +kernel
theorem dX12_check_1 : decode cX12_check 1 = .ok (.iconst 0, 1) := by decide +kernel
theorem dX12_check_2 : decode cX12_check 2 = .ok (.bipush 8, 2) := by decide +kernel
theorem dX12_check_4 : decode cX12_check 4 = .ok (.invokestatic 173, 3) := by decide +kernel
theorem dX12_check_7 : decode cX12_check 7 = .ok (.ifCond .eq 13, 3) := by decide +kernel
theorem dX12_check_10 : decode cX12_check 10 = .ok (.iload_n 1, 1) := by decide +kernel
theorem dX12_check_11 : decode cX12_check 11 = .ok (.aload_n 0, 1) := by decide +kernel
theorem dX12_check_12 : decode cX12_check 12 = .ok (.getfield 212, 3) := by decide +kernel
theorem dX12_check_15 : decode cX12_check 15 = .ok (.iconst 4, 1) := by decide +kernel
theorem dX12_check_16 : decode cX12_check 16 = .ok (.idiv, 1) := by decide +kernel
theorem dX12_check_17 : decode cX12_check 17 = .ok (.if_icmp .le 6, 3) := by decide +kernel
theorem dX12_check_20 : decode cX12_check 20 = .ok (.bipush (-2), 2) := by decide +kernel
theorem dX12_check_22 : decode cX12_check 22 = .ok (.ireturn, 1) := by decide +kernel
theorem dX12_check_23 : decode cX12_check 23 = .ok (.aload_n 0, 1) := by decide +kernel
theorem dX12_check_24 : decode cX12_check 24 = .ok (.iconst 0, 1) := by decide +kernel
theorem dX12_check_25 : decode cX12_check 25 = .ok (.putfield 212, 3) := by decide +kernel
theorem dX12_check_28 : decode cX12_check 28 = .ok (.iconst 0, 1) := by decide +kernel
theorem dX12_check_29 : decode cX12_check 29 = .ok (.istore_n 2, 1) := by decide +kernel
theorem dX12_check_30 : decode cX12_check 30 = .ok (.iload_n 2, 1) := by decide +kernel
theorem dX12_check_31 : decode cX12_check 31 = .ok (.iload_n 1, 1) := by decide +kernel
theorem dX12_check_32 : decode cX12_check 32 = .ok (.if_icmp .ge 25, 3) := by decide +kernel
theorem dX12_check_35 : decode cX12_check 35 = .ok (.aload_n 0, 1) := by decide +kernel
theorem dX12_check_36 : decode cX12_check 36 = .ok (.iload_n 2, 1) := by decide +kernel
theorem dX12_check_37 : decode cX12_check 37 = .ok (.invokevirtual 511, 3) := by decide +kernel
theorem dX12_check_40 : decode cX12_check 40 = .ok (.aload_n 0, 1) := by decide +kernel
theorem dX12_check_41 : decode cX12_check 41 = .ok (.getfield 109, 3) := by decide +kernel
theorem dX12_check_44 : decode cX12_check 44 = .ok (.iload_n 2, 1) := by decide +kernel
theorem dX12_check_45 : decode cX12_check 45 = .ok (.iaload, 1) := by decide +kernel
theorem dX12_check_46 : decode cX12_check 46 = .ok (.if_icmp .eq 5, 3) := by decide +kernel
theorem dX12_check_49 : decode cX12_check 49 = .ok (.iload_n 2, 1) := by decide +kernel
theorem dX12_check_50 : decode cX12_check 50 = .ok (.ireturn, 1) := by decide +kernel
theorem dX12_check_51 : decode cX12_check 51 = .ok (.iinc 2 1, 3) := by decide +kernel
theorem dX12_check_54 : decode cX12_check 54 = .ok (.goto (-24), 3) := by decide +kernel
theorem dX12_check_57 : decode cX12_check 57 = .ok (.iconst (-1), 1) := by decide +kernel
theorem dX12_check_58 : decode cX12_check 58 = .ok (.ireturn, 1) := by decide +kernel
theorem dX12_count_0 : decode cX12_count 0 = .ok (.iload_n 1, 1) := by decide +kernel
theorem dX12_count_1 : decode cX12_count 1 = .ok (.tableswitch 79 0 5 #[39, 44, 51, 56, 61, 66], 39) := by decide +kernel
theorem dX12_count_40 : decode cX12_count 40 = .ok (.aload_n 0, 1) := by decide +kernel
theorem dX12_count_41 : decode cX12_count 41 = .ok (.getfield 139, 3) := by decide +kernel
theorem dX12_count_44 : decode cX12_count 44 = .ok (.ireturn, 1) := by decide +kernel
theorem dX12_count_45 : decode cX12_count 45 = .ok (.aload_n 0, 1) := by decide +kernel
theorem dX12_count_46 : decode cX12_count 46 = .ok (.getfield 44, 3) := by decide +kernel
theorem dX12_count_49 : decode cX12_count 49 = .ok (.iconst 0, 1) := by decide +kernel
theorem dX12_count_50 : decode cX12_count 50 = .ok (.iaload, 1) := by decide +kernel
theorem dX12_count_51 : decode cX12_count 51 = .ok (.ireturn, 1) := by decide +kernel
theorem dX12_count_52 : decode cX12_count 52 = .ok (.aload_n 0, 1) := by decide +kernel
theorem dX12_count_53 : decode cX12_count 53 = .ok (.getfield 212, 3) := by decide +kernel
theorem dX12_count_56 : decode cX12_count 56 = .ok (.ireturn, 1) := by decide +kernel
theorem dX12_count_57 : decode cX12_count 57 = .ok (.aload_n 0, 1) := by decide +kernel
theorem dX12_count_58 : decode cX12_count 58 = .ok (.getfield 146, 3) := by decide +kernel
theorem dX12_count_61 : decode cX12_count 61 = .ok (.ireturn, 1) := by decide +kernel
theorem dX12_count_62 : decode cX12_count 62 = .ok (.aload_n 0, 1) := by decide +kernel
theorem dX12_count_63 : decode cX12_count 63 = .ok (.getfield 469, 3) := by decide +kernel
theorem dX12_count_66 : decode cX12_count 66 = .ok (.ireturn, 1) := by decide +kernel
theorem dX12_count_67 : decode cX12_count 67 = .ok (.bipush 100, 2) := by decide +kernel
theorem dX12_count_69 : decode cX12_count 69 = .ok (.aload_n 0, 1) := by decide +kernel
theorem dX12_count_70 : decode cX12_count 70 = .ok (.getfield 152, 3) := by decide +kernel
theorem dX12_count_73 : decode cX12_count 73 = .ok (.imul, 1) := by decide +kernel
theorem dX12_count_74 : decode cX12_count 74 = .ok (.aload_n 0, 1) := by decide +kernel
theorem dX12_count_75 : decode cX12_count 75 = .ok (.getfield 149, 3) := by decide +kernel
theorem dX12_count_78 : decode cX12_count 78 = .ok (.iadd, 1) := by decide +kernel
theorem dX12_count_79 : decode cX12_count 79 = .ok (.ireturn, 1) := by decide +kernel
theorem dX12_count_80 : decode cX12_count 80 = .ok (.iload_n 1, 1) := by decide +kernel
theorem dX12_count_81 : decode cX12_count 81 = .ok (.bipush 10, 2) := by decide +kernel
theorem dX12_count_83 : decode cX12_count 83 = .ok (.bipush 13, 2) := by decide +kernel
theorem dX12_count_85 : decode cX12_count 85 = .ok (.invokestatic 173, 3) := by decide +kernel
theorem dX12_count_88 : decode cX12_count 88 = .ok (.ifCond .eq 13, 3) := by decide +kernel
theorem dX12_count_91 : decode cX12_count 91 = .ok (.aload_n 0, 1) := by decide +kernel
theorem dX12_count_92 : decode cX12_count 92 = .ok (.getfield 44, 3) := by decide +kernel
theorem dX12_count_95 : decode cX12_count 95 = .ok (.iload_n 1, 1) := by decide +kernel
theorem dX12_count_96 : decode cX12_count 96 = .ok (.bipush 9, 2) := by decide +kernel
theorem dX12_count_98 : decode cX12_count 98 = .ok (.isub, 1) := by decide +kernel
theorem dX12_count_99 : decode cX12_count 99 = .ok (.iaload, 1) := by decide +kernel
theorem dX12_count_100 : decode cX12_count 100 = .ok (.ireturn, 1) := by decide +kernel
theorem dX12_count_101 : decode cX12_count 101 = .ok (.iload_n 1, 1) := by decide +kernel
theorem dX12_count_102 : decode cX12_count 102 = .ok (.bipush 20, 2) := by decide +kernel
theorem dX12_count_104 : decode cX12_count 104 = .ok (.bipush 19, 2) := by decide +kernel
theorem dX12_count_106 : decode cX12_count 106 = .ok (.aload_n 0, 1) := by decide +kernel
theorem dX12_count_107 : decode cX12_count 107 = .ok (.getfield 469, 3) := by decide +kernel
theorem dX12_count_110 : decode cX12_count 110 = .ok (.iadd, 1) := by decide +kernel
theorem dX12_count_111 : decode cX12_count 111 = .ok (.invokestatic 173, 3) := by decide +kernel
theorem dX12_count_114 : decode cX12_count 114 = .ok (.ifCond .eq 13, 3) := by decide +kernel
theorem dX12_count_117 : decode cX12_count 117 = .ok (.aload_n 0, 1) := by decide +kernel
theorem dX12_count_118 : decode cX12_count 118 = .ok (.getfield 115, 3) := by decide +kernel
theorem dX12_count_121 : decode cX12_count 121 = .ok (.iload_n 1, 1) := by decide +kernel
theorem dX12_count_122 : decode cX12_count 122 = .ok (.bipush 20, 2) := by decide +kernel
theorem dX12_count_124 : decode cX12_count 124 = .ok (.isub, 1) := by decide +kernel
theorem dX12_count_125 : decode cX12_count 125 = .ok (.iaload, 1) := by decide +kernel
theorem dX12_count_126 : decode cX12_count 126 = .ok (.ireturn, 1) := by decide +kernel
theorem dX12_count_127 : decode cX12_count 127 = .ok (.iload_n 1, 1) := by decide +kernel
theorem dX12_count_128 : decode cX12_count 128 = .ok (.bipush 40, 2) := by decide +kernel
theorem dX12_count_130 : decode cX12_count 130 = .ok (.bipush 39, 2) := by decide +kernel
theorem dX12_count_132 : decode cX12_count 132 = .ok (.aload_n 0, 1) := by decide +kernel
theorem dX12_count_133 : decode cX12_count 133 = .ok (.getfield 469, 3) := by decide +kernel
theorem dX12_count_136 : decode cX12_count 136 = .ok (.iadd, 1) := by decide +kernel
theorem dX12_count_137 : decode cX12_count 137 = .ok (.invokestatic 173, 3) := by decide +kernel
theorem dX12_count_140 : decode cX12_count 140 = .ok (.ifCond .eq 26, 3) := by decide +kernel
theorem dX12_count_143 : decode cX12_count 143 = .ok (.bipush 100, 2) := by decide +kernel
theorem dX12_count_145 : decode cX12_count 145 = .ok (.aload_n 0, 1) := by decide +kernel
theorem dX12_count_146 : decode cX12_count 146 = .ok (.getfield 121, 3) := by decide +kernel
theorem dX12_count_149 : decode cX12_count 149 = .ok (.iload_n 1, 1) := by decide +kernel
theorem dX12_count_150 : decode cX12_count 150 = .ok (.bipush 40, 2) := by decide +kernel
theorem dX12_count_152 : decode cX12_count 152 = .ok (.isub, 1) := by decide +kernel
theorem dX12_count_153 : decode cX12_count 153 = .ok (.iaload, 1) := by decide +kernel
theorem dX12_count_154 : decode cX12_count 154 = .ok (.imul, 1) := by decide +kernel
theorem dX12_count_155 : decode cX12_count 155 = .ok (.aload_n 0, 1) := by decide +kernel
theorem dX12_count_156 : decode cX12_count 156 = .ok (.getfield 118, 3) := by decide +kernel
theorem dX12_count_159 : decode cX12_count 159 = .ok (.iload_n 1, 1) := by decide +kernel
theorem dX12_count_160 : decode cX12_count 160 = .ok (.bipush 40, 2) := by decide +kernel
theorem dX12_count_162 : decode cX12_count 162 = .ok (.isub, 1) := by decide +kernel
theorem dX12_count_163 : decode cX12_count 163 = .ok (.iaload, 1) := by decide +kernel
theorem dX12_count_164 : decode cX12_count 164 = .ok (.iadd, 1) := by decide +kernel
theorem dX12_count_165 : decode cX12_count 165 = .ok (.ireturn, 1) := by decide +kernel
theorem dX12_count_166 : decode cX12_count 166 = .ok (.iload_n 1, 1) := by decide +kernel
theorem dX12_count_167 : decode cX12_count 167 = .ok (.bipush 100, 2) := by decide +kernel
theorem dX12_count_169 : decode cX12_count 169 = .ok (.sipush 163, 3) := by decide +kernel
theorem dX12_count_172 : decode cX12_count 172 = .ok (.invokestatic 173, 3) := by decide +kernel
theorem dX12_count_175 : decode cX12_count 175 = .ok (.ifCond .eq 15, 3) := by decide +kernel
