theorem dX11_game_23 : decode cX11_game 23 = .ok (.if_icmp .ge 69, 3) := by decide +kernel
theorem dX11_game_26 : decode cX11_game 26 = .ok (.aload_n 0, 1) := by decide +kernel
theorem dX11_game_27 : decode cX11_game 27 = .ok (.iload 5, 2) := by decide +kernel
theorem dX11_game_29 : decode cX11_game 29 = .ok (.invokevirtual 208, 3) := by decide +kernel
theorem dX11_game_32 : decode cX11_game 32 = .ok (.ifCond .eq 54, 3) := by decide +kernel
theorem dX11_game_35 : decode cX11_game 35 = .ok (.aload_n 0, 1) := by decide +kernel
theorem dX11_game_36 : decode cX11_game 36 = .ok (.iload 5, 2) := by decide +kernel
theorem dX11_game_38 : decode cX11_game 38 = .ok (.iload_n 1, 1) := by decide +kernel
theorem dX11_game_39 : decode cX11_game 39 = .ok (.iconst 2, 1) := by decide +kernel
theorem dX11_game_40 : decode cX11_game 40 = .ok (.if_icmp .ge 7, 3) := by decide +kernel
theorem dX11_game_43 : decode cX11_game 43 = .ok (.iconst 1, 1) := by decide +kernel
theorem dX11_game_44 : decode cX11_game 44 = .ok (.goto 4, 3) := by decide +kernel
theorem dX11_game_47 : decode cX11_game 47 = .ok (.iconst 0, 1) := by decide +kernel
theorem dX11_game_48 : decode cX11_game 48 = .ok (.invokevirtual 211, 3) := by decide +kernel
theorem dX11_game_51 : decode cX11_game 51 = .ok (.lstore 6, 2) := by decide +kernel
theorem dX11_game_53 : decode cX11_game 53 = .ok (.iload_n 2, 1) := by decide +kernel
theorem dX11_game_54 : decode cX11_game 54 = .ok (.iconst (-1), 1) := by decide +kernel
theorem dX11_game_55 : decode cX11_game 55 = .ok (.if_icmp .eq 25, 3) := by decide +kernel
theorem dX11_game_58 : decode cX11_game 58 = .ok (.iload_n 1, 1) := by decide +kernel
theorem dX11_game_59 : decode cX11_game 59 = .ok (.iconst 2, 1) := by decide +kernel
theorem dX11_game_60 : decode cX11_game 60 = .ok (.if_icmp .ge 13, 3) := by decide +kernel
theorem dX11_game_63 : decode cX11_game 63 = .ok (.lload 6, 2) := by decide +kernel
theorem dX11_game_65 : decode cX11_game 65 = .ok (.lload_n 3, 1) := by decide +kernel
theorem dX11_game_66 : decode cX11_game 66 = .ok (.lcmp, 1) := by decide +kernel
theorem dX11_game_67 : decode cX11_game 67 = .ok (.ifCond .le 19, 3) := by decide +kernel
theorem dX11_game_70 : decode cX11_game 70 = .ok (.goto 10, 3) := by decide +kernel
theorem dX11_game_73 : decode cX11_game 73 = .ok (.lload 6, 2) := by decide +kernel
theorem dX11_game_75 : decode cX11_game 75 = .ok (.lload_n 3, 1) := by decide +kernel
theorem dX11_game_76 : decode cX11_game 76 = .ok (.lcmp, 1) := by decide +kernel
theorem dX11_game_77 : decode cX11_game 77 = .ok (.ifCond .ge 9, 3) := by decide +kernel
theorem dX11_game_80 : decode cX11_game 80 = .ok (.iload 5, 2) := by decide +kernel
theorem dX11_game_82 : decode cX11_game 82 = .ok (.istore_n 2, 1) := by decide +kernel
theorem dX11_game_83 : decode cX11_game 83 = .ok (.lload 6, 2) := by decide +kernel
theorem dX11_game_85 : decode cX11_game 85 = .ok (.lstore_n 3, 1) := by decide +kernel
theorem dX11_game_86 : decode cX11_game 86 = .ok (.iinc 5 1, 3) := by decide +kernel
theorem dX11_game_89 : decode cX11_game 89 = .ok (.goto (-69), 3) := by decide +kernel
theorem dX11_game_92 : decode cX11_game 92 = .ok (.iload_n 2, 1) := by decide +kernel
theorem dX11_game_93 : decode cX11_game 93 = .ok (.iconst (-1), 1) := by decide +kernel
theorem dX11_game_94 : decode cX11_game 94 = .ok (.if_icmp .ne 7, 3) := by decide +kernel
theorem dX11_game_97 : decode cX11_game 97 = .ok (.ldc2_w 215, 3) := by decide +kernel
theorem dX11_game_100 : decode cX11_game 100 = .ok (.lreturn, 1) := by decide +kernel
theorem dX11_game_101 : decode cX11_game 101 = .ok (.iload_n 1, 1) := by decide +kernel
theorem dX11_game_102 : decode cX11_game 102 = .ok (.ifCond .eq 8, 3) := by decide +kernel
theorem dX11_game_105 : decode cX11_game 105 = .ok (.iload_n 1, 1) := by decide +kernel
theorem dX11_game_106 : decode cX11_game 106 = .ok (.iconst 2, 1) := by decide +kernel
theorem dX11_game_107 : decode cX11_game 107 = .ok (.if_icmp .ne 7, 3) := by decide +kernel
theorem dX11_game_110 : decode cX11_game 110 = .ok (.lload_n 3, 1) := by decide +kernel
theorem dX11_game_111 : decode cX11_game 111 = .ok (.goto 5, 3) := by decide +kernel
theorem dX11_game_114 : decode cX11_game 114 = .ok (.iload_n 2, 1) := by decide +kernel
theorem dX11_game_115 : decode cX11_game 115 = .ok (.i2l, 1) := by decide +kernel
theorem dX11_game_116 : decode cX11_game 116 = .ok (.lreturn, 1) := by decide +kernel
theorem dX11_match_0 : decode cX11_match 0 = .ok (.iload_n 1, 1) := by decide +kernel
theorem dX11_match_1 : decode cX11_match 1 = .ok (.invokestatic 217, 3) := by decide +kernel
theorem dX11_match_4 : decode cX11_match 4 = .ok (.ifCond .eq 29, 3) := by decide +kernel
theorem dX11_match_7 : decode cX11_match 7 = .ok (.iload_n 2, 1) := by decide +kernel
theorem dX11_match_8 : decode cX11_match 8 = .ok (.invokestatic 217, 3) := by decide +kernel
theorem dX11_match_11 : decode cX11_match 11 = .ok (.ifCond .eq 22, 3) := by decide +kernel
theorem dX11_match_14 : decode cX11_match 14 = .ok (.iload_n 1, 1) := by decide +kernel
theorem dX11_match_15 : decode cX11_match 15 = .ok (.bipush 13, 2) := by decide +kernel
theorem dX11_match_17 : decode cX11_match 17 = .ok (.if_icmp .ne 9, 3) := by decide +kernel
theorem dX11_match_20 : decode cX11_match 20 = .ok (.iload_n 2, 1) := by decide +kernel
theorem dX11_match_21 : decode cX11_match 21 = .ok (.bipush 13, 2) := by decide +kernel
theorem dX11_match_23 : decode cX11_match 23 = .ok (.if_icmp .eq 10, 3) := by decide +kernel
theorem dX11_match_26 : decode cX11_match 26 = .ok (.iload_n 3, 1) := by decide +kernel
theorem dX11_match_27 : decode cX11_match 27 = .ok (.invokestatic 198, 3) := by decide +kernel
theorem dX11_match_30 : decode cX11_match 30 = .ok (.ifCond .ne 5, 3) := by decide +kernel
theorem dX11_match_33 : decode cX11_match 33 = .ok (.iconst (-1), 1) := by decide +kernel
theorem dX11_match_34 : decode cX11_match 34 = .ok (.ireturn, 1) := by decide +kernel
theorem dX11_match_35 : decode cX11_match 35 = .ok (.iload_n 1, 1) := by decide +kernel
theorem dX11_match_36 : decode cX11_match 36 = .ok (.bipush 13, 2) := by decide +kernel
theorem dX11_match_38 : decode cX11_match 38 = .ok (.if_icmp .ne 6, 3) := by decide +kernel
theorem dX11_match_41 : decode cX11_match 41 = .ok (.ldc 220, 2) := by decide +kernel
theorem dX11_match_43 : decode cX11_match 43 = .ok (.ireturn, 1) := by decide +kernel
theorem dX11_match_44 : decode cX11_match 44 = .ok (.iload_n 2, 1) := by decide +kernel
theorem dX11_match_45 : decode cX11_match 45 = .ok (.bipush 13, 2) := by decide +kernel
theorem dX11_match_47 : decode cX11_match 47 = .ok (.if_icmp .ne 5, 3) := by decide +kernel
theorem dX11_match_50 : decode cX11_match 50 = .ok (.iconst 0, 1) := by decide +kernel
theorem dX11_match_51 : decode cX11_match 51 = .ok (.ireturn, 1) := by decide +kernel
theorem dX11_match_52 : decode cX11_match 52 = .ok (.aload_n 0, 1) := by decide +kernel
theorem dX11_match_53 : decode cX11_match 53 = .ok (.getfield 57, 3) := by decide +kernel
theorem dX11_match_56 : decode cX11_match 56 = .ok (.aload_n 0, 1) := by decide +kernel
theorem dX11_match_57 : decode cX11_match 57 = .ok (.getfield 33, 3) := by decide +kernel
theorem dX11_match_60 : decode cX11_match 60 = .ok (.aload_n 0, 1) := by decide +kernel
theorem dX11_match_61 : decode cX11_match 61 = .ok (.getfield 7, 3) := by decide +kernel
theorem dX11_match_64 : decode cX11_match 64 = .ok (.invokevirtual 221, 3) := by decide +kernel
theorem dX11_match_67 : decode cX11_match 67 = .ok (.iload_n 1, 1) := by decide +kernel
theorem dX11_match_68 : decode cX11_match 68 = .ok (.iload_n 2, 1) := by decide +kernel
theorem dX11_match_69 : decode cX11_match 69 = .ok (.iload_n 3, 1) := by decide +kernel
theorem dX11_match_70 : decode cX11_match 70 = .ok (.invokevirtual 225, 3) := by decide +kernel
theorem dX11_match_73 : decode cX11_match 73 = .ok (.ireturn, 1) := by decide +kernel
theorem dX11_drawn_0 : decode cX11_drawn 0 = .ok (.aload_n 0, 1) := by decide +kernel
theorem dX11_drawn_1 : decode cX11_drawn 1 = .ok (.getfield 41, 3) := by decide +kernel
theorem dX11_drawn_4 : decode cX11_drawn 4 = .ok (.iload_n 3, 1) := by decide +kernel
theorem dX11_drawn_5 : decode cX11_drawn 5 = .ok (.invokevirtual 146, 3) := by decide +kernel
theorem dX11_drawn_8 : decode cX11_drawn 8 = .ok (.istore 6, 2) := by decide +kernel
theorem dX11_drawn_10 : decode cX11_drawn 10 = .ok (.aload_n 0, 1) := by decide +kernel
theorem dX11_drawn_11 : decode cX11_drawn 11 = .ok (.getfield 41, 3) := by decide +kernel
theorem dX11_drawn_14 : decode cX11_drawn 14 = .ok (.iload 4, 2) := by decide +kernel
theorem dX11_drawn_16 : decode cX11_drawn 16 = .ok (.invokevirtual 146, 3) := by decide +kernel
theorem dX11_drawn_19 : decode cX11_drawn 19 = .ok (.istore 7, 2) := by decide +kernel
theorem dX11_drawn_21 : decode cX11_drawn 21 = .ok (.aload_n 0, 1) := by decide +kernel
theorem dX11_drawn_22 : decode cX11_drawn 22 = .ok (.iload_n 1, 1) := by decide +kernel
theorem dX11_drawn_23 : decode cX11_drawn 23 = .ok (.invokevirtual 205, 3) := by decide +kernel
theorem dX11_drawn_26 : decode cX11_drawn 26 = .ok (.ifCond .eq 24, 3) := by decide +kernel
theorem dX11_drawn_29 : decode cX11_drawn 29 = .ok (.aload_n 0, 1) := by decide +kernel
theorem dX11_drawn_30 : decode cX11_drawn 30 = .ok (.iload_n 2, 1) := by decide +kernel
theorem dX11_drawn_31 : decode cX11_drawn 31 = .ok (.invokevirtual 205, 3) := by decide +kernel
theorem dX11_drawn_34 : decode cX11_drawn 34 = .ok (.ifCond .eq 16, 3) := by decide +kernel
theorem dX11_drawn_37 : decode cX11_drawn 37 = .ok (.aload_n 0, 1) := by decide +kernel
theorem dX11_drawn_38 : decode cX11_drawn 38 = .ok (.iload 6, 2) := by decide +kernel
theorem dX11_drawn_40 : decode cX11_drawn 40 = .ok (.iload 7, 2) := by decide +kernel
theorem dX11_drawn_42 : decode cX11_drawn 42 = .ok (.iload 5, 2) := by decide +kernel
theorem dX11_drawn_44 : decode cX11_drawn 44 = .ok (.invokevirtual 152, 3) := by decide +kernel
theorem dX11_drawn_47 : decode cX11_drawn 47 = .ok (.ifCond .ne 6, 3) := by decide +kernel
theorem dX11_drawn_50 : decode cX11_drawn 50 = .ok (.bipush (-100), 2) := by decide +kernel
theorem dX11_drawn_52 : decode cX11_drawn 52 = .ok (.ireturn, 1) := by decide +kernel
theorem dX11_drawn_53 : decode cX11_drawn 53 = .ok (.aload_n 0, 1) := by decide +kernel
theorem dX11_drawn_54 : decode cX11_drawn 54 = .ok (.getfield 33, 3) := by decide +kernel
theorem dX11_drawn_57 : decode cX11_drawn 57 = .ok (.aload_n 0, 1) := by decide +kernel
theorem dX11_drawn_58 : decode cX11_drawn 58 = .ok (.getfield 7, 3) := by decide +kernel
theorem dX11_drawn_61 : decode cX11_drawn 61 = .ok (.invokevirtual 167, 3) := by decide +kernel
theorem dX11_drawn_64 : decode cX11_drawn 64 = .ok (.aload_n 0, 1) := by decide +kernel
theorem dX11_drawn_65 : decode cX11_drawn 65 = .ok (.getfield 33, 3) := by decide +kernel
theorem dX11_drawn_68 : decode cX11_drawn 68 = .ok (.iload_n 1, 1) := by decide +kernel
theorem dX11_drawn_69 : decode cX11_drawn 69 = .ok (.iload_n 2, 1) := by decide +kernel
theorem dX11_drawn_70 : decode cX11_drawn 70 = .ok (.invokevirtual 179, 3) := by decide +kernel
theorem dX11_drawn_73 : decode cX11_drawn 73 = .ok (.aload_n 0, 1) := by decide +kernel
theorem dX11_drawn_74 : decode cX11_drawn 74 = .ok (.getfield 64, 3) := by decide +kernel
theorem dX11_drawn_77 : decode cX11_drawn 77 = .ok (.iload 6, 2) := by decide +kernel
theorem dX11_drawn_79 : decode cX11_drawn 79 = .ok (.iload 7, 2) := by decide +kernel
theorem dX11_drawn_81 : decode cX11_drawn 81 = .ok (.iload 5, 2) := by decide +kernel
theorem dX11_drawn_83 : decode cX11_drawn 83 = .ok (.invokevirtual 229, 3) := by decide +kernel
theorem dX11_drawn_86 : decode cX11_drawn 86 = .ok (.iconst 0, 1) := by decide +kernel
theorem dX11_drawn_87 : decode cX11_drawn 87 = .ok (.istore 8, 2) := by decide +kernel
theorem dX11_drawn_89 : decode cX11_drawn 89 = .ok (.iload 8, 2) := by decide +kernel
theorem dX11_drawn_91 : decode cX11_drawn 91 = .ok (.bipush 6, 2) := by decide +kernel
theorem dX11_drawn_93 : decode cX11_drawn 93 = .ok (.if_icmp .ge 27, 3) := by decide +kernel
theorem dX11_drawn_96 : decode cX11_drawn 96 = .ok (.aload_n 0, 1) := by decide +kernel
theorem dX11_drawn_97 : decode cX11_drawn 97 = .ok (.getfield 64, 3) := by decide +kernel
theorem dX11_drawn_100 : decode cX11_drawn 100 = .ok (.aload_n 0, 1) := by decide +kernel
theorem dX11_drawn_101 : decode cX11_drawn 101 = .ok (.getfield 41, 3) := by decide +kernel
theorem dX11_drawn_104 : decode cX11_drawn 104 = .ok (.invokevirtual 233, 3) := by decide +kernel
theorem dX11_drawn_107 : decode cX11_drawn 107 = .ok (.ifCond .ne 13, 3) := by decide +kernel
theorem dX11_drawn_110 : decode cX11_drawn 110 = .ok (.aload_n 0, 1) := by decide +kernel
theorem dX11_drawn_111 : decode cX11_drawn 111 = .ok (.invokevirtual 237, 3) := by decide +kernel
theorem dX11_drawn_114 : decode cX11_drawn 114 = .ok (.iinc 8 1, 3) := by decide +kernel
theorem dX11_drawn_117 : decode cX11_drawn 117 = .ok (.goto (-28), 3) := by decide +kernel
theorem dX11_drawn_120 : decode cX11_drawn 120 = .ok (.aload_n 0, 1) := by decide +kernel
theorem dX11_drawn_121 : decode cX11_drawn 121 = .ok (.getfield 41, 3) := by decide +kernel
theorem dX11_drawn_124 : decode cX11_drawn 124 = .ok (.aload_n 0, 1) := by decide +kernel
theorem dX11_drawn_125 : decode cX11_drawn 125 = .ok (.getfield 64, 3) := by decide +kernel
theorem dX11_drawn_128 : decode cX11_drawn 128 = .ok (.invokevirtual 240, 3) := by decide +kernel
theorem dX11_drawn_131 : decode cX11_drawn 131 = .ok (.aload_n 0, 1) := by decide +kernel
theorem dX11_drawn_132 : decode cX11_drawn 132 = .ok (.getfield 64, 3) := by decide +kernel
theorem dX11_drawn_135 : decode cX11_drawn 135 = .ok (.invokevirtual 244, 3) := by decide +kernel
theorem dX11_drawn_138 : decode cX11_drawn 138 = .ok (.invokevirtual 160, 3) := by decide +kernel
theorem dX11_drawn_141 : decode cX11_drawn 141 = .ok (.ireturn, 1) := by decide +kernel
theorem dX11_log_0 : decode cX11_log 0 = .ok (.aload_n 0, 1) := by decide +kernel
theorem dX11_log_1 : decode cX11_log 1 = .ok (.getfield 64, 3) := by decide +kernel
theorem dX11_log_4 : decode cX11_log 4 = .ok (.aload_n 0, 1) := by decide +kernel
theorem dX11_log_5 : decode cX11_log 5 = .ok (.getfield 41, 3) := by decide +kernel
theorem dX11_log_8 : decode cX11_log 8 = .ok (.iload_n 1, 1) := by decide +kernel
theorem dX11_log_9 : decode cX11_log 9 = .ok (.invokevirtual 247, 3) := by decide +kernel
theorem dX11_log_12 : decode cX11_log 12 = .ok (.ireturn, 1) := by decide +kernel
theorem dX11_wrong_0 : decode cX11_wrong 0 = .ok (.iload_n 2, 1) := by decide +kernel
theorem dX11_wrong_1 : decode cX11_wrong 1 = .ok (.ifCond .lt 38, 3) := by decide +kernel
theorem dX11_wrong_4 : decode cX11_wrong 4 = .ok (.iload_n 2, 1) := by decide +kernel
theorem dX11_wrong_5 : decode cX11_wrong 5 = .ok (.iconst 2, 1) := by decide +kernel
theorem dX11_wrong_6 : decode cX11_wrong 6 = .ok (.if_icmp .gt 33, 3) := by decide +kernel
theorem dX11_wrong_9 : decode cX11_wrong 9 = .ok (.aload_n 0, 1) := by decide +kernel
theorem dX11_wrong_10 : decode cX11_wrong 10 = .ok (.getfield 64, 3) := by decide +kernel
theorem dX11_wrong_13 : decode cX11_wrong 13 = .ok (.getfield 251, 3) := by decide +kernel
theorem dX11_wrong_16 : decode cX11_wrong 16 = .ok (.iconst 1, 1) := by decide +kernel
theorem dX11_wrong_17 : decode cX11_wrong 17 = .ok (.if_icmp .lt 22, 3) := by decide +kernel
theorem dX11_wrong_20 : decode cX11_wrong 20 = .ok (.iload_n 2, 1) := by decide +kernel
theorem dX11_wrong_21 : decode cX11_wrong 21 = .ok (.ifCond .ne 22, 3) := by decide +kernel
theorem dX11_wrong_24 : decode cX11_wrong 24 = .ok (.iload_n 1, 1) := by decide +kernel
theorem dX11_wrong_25 : decode cX11_wrong 25 = .ok (.ifCond .lt 14, 3) := by decide +kernel
theorem dX11_wrong_28 : decode cX11_wrong 28 = .ok (.iload_n 1, 1) := by decide +kernel
theorem dX11_wrong_29 : decode cX11_wrong 29 = .ok (.aload_n 0, 1) := by decide +kernel
theorem dX11_wrong_30 : decode cX11_wrong 30 = .ok (.getfield 64, 3) := by decide +kernel
theorem dX11_wrong_33 : decode cX11_wrong 33 = .ok (.getfield 251, 3) := by decide +kernel
theorem dX11_wrong_36 : decode cX11_wrong 36 = .ok (.if_icmp .lt 7, 3) := by decide +kernel
theorem dX11_wrong_39 : decode cX11_wrong 39 = .ok (.ldc2_w 190, 3) := by decide +kernel
theorem dX11_wrong_42 : decode cX11_wrong 42 = .ok (.lreturn, 1) := by decide +kernel
theorem dX11_wrong_43 : decode cX11_wrong 43 = .ok (.aload_n 0, 1) := by decide +kernel
theorem dX11_wrong_44 : decode cX11_wrong 44 = .ok (.getfield 33, 3) := by decide +kernel
theorem dX11_wrong_47 : decode cX11_wrong 47 = .ok (.aload_n 0, 1) := by decide +kernel
theorem dX11_wrong_48 : decode cX11_wrong 48 = .ok (.getfield 7, 3) := by decide +kernel
theorem dX11_wrong_51 : decode cX11_wrong 51 = .ok (.invokevirtual 167, 3) := by decide +kernel
theorem dX11_wrong_54 : decode cX11_wrong 54 = .ok (.aload_n 0, 1) := by decide +kernel
theorem dX11_wrong_55 : decode cX11_wrong 55 = .ok (.getfield 33, 3) := by decide +kernel
theorem dX11_wrong_58 : decode cX11_wrong 58 = .ok (.iconst (-1), 1) := by decide +kernel
theorem dX11_wrong_59 : decode cX11_wrong 59 = .ok (.iconst (-1), 1) := by decide +kernel
theorem dX11_wrong_60 : decode cX11_wrong 60 = .ok (.invokevirtual 179, 3) := by decide +kernel
theorem dX11_wrong_63 : decode cX11_wrong 63 = .ok (.iload_n 2, 1) := by decide +kernel
theorem dX11_wrong_64 : decode cX11_wrong 64 = .ok (.ifCond .ne 9, 3) := by decide +kernel
theorem dX11_wrong_67 : decode cX11_wrong 67 = .ok (.aload_n 0, 1) := by decide +kernel
theorem dX11_wrong_68 : decode cX11_wrong 68 = .ok (.iload_n 1, 1) := by decide +kernel
theorem dX11_wrong_69 : decode cX11_wrong 69 = .ok (.invokevirtual 252, 3) := by decide +kernel
theorem dX11_wrong_72 : decode cX11_wrong 72 = .ok (.lreturn, 1) := by decide +kernel
theorem dX11_wrong_73 : decode cX11_wrong 73 = .ok (.iconst 0, 1) := by decide +kernel
theorem dX11_wrong_74 : decode cX11_wrong 74 = .ok (.istore_n 3, 1) := by decide +kernel
theorem dX11_wrong_75 : decode cX11_wrong 75 = .ok (.aload_n 0, 1) := by decide +kernel
theorem dX11_wrong_76 : decode cX11_wrong 76 = .ok (.iconst 0, 1) := by decide +kernel
theorem dX11_wrong_77 : decode cX11_wrong 77 = .ok (.invokevirtual 252, 3) := by decide +kernel
theorem dX11_wrong_80 : decode cX11_wrong 80 = .ok (.lstore 4, 2) := by decide +kernel
theorem dX11_wrong_82 : decode cX11_wrong 82 = .ok (.iconst 1, 1) := by decide +kernel
theorem dX11_wrong_83 : decode cX11_wrong 83 = .ok (.istore 6, 2) := by decide +kernel
theorem dX11_wrong_85 : decode cX11_wrong 85 = .ok (.iload 6, 2) := by decide +kernel
theorem dX11_wrong_87 : decode cX11_wrong 87 = .ok (.aload_n 0, 1) := by decide +kernel
theorem dX11_wrong_88 : decode cX11_wrong 88 = .ok (.getfield 64, 3) := by decide +kernel
theorem dX11_wrong_91 : decode cX11_wrong 91 = .ok (.getfield 251, 3) := by decide +kernel
theorem dX11_wrong_94 : decode cX11_wrong 94 = .ok (.if_icmp .ge 32, 3) := by decide +kernel
theorem dX11_wrong_97 : decode cX11_wrong 97 = .ok (.aload_n 0, 1) := by decide +kernel
theorem dX11_wrong_98 : decode cX11_wrong 98 = .ok (.iload 6, 2) := by decide +kernel
theorem dX11_wrong_100 : decode cX11_wrong 100 = .ok (.invokevirtual 252, 3) := by decide +kernel
theorem dX11_wrong_103 : decode cX11_wrong 103 = .ok (.lstore 7, 2) := by decide +kernel
theorem dX11_wrong_105 : decode cX11_wrong 105 = .ok (.lload 7, 2) := by decide +kernel
theorem dX11_wrong_107 : decode cX11_wrong 107 = .ok (.lload 4, 2) := by decide +kernel
theorem dX11_wrong_109 : decode cX11_wrong 109 = .ok (.lcmp, 1) := by decide +kernel
theorem dX11_wrong_110 : decode cX11_wrong 110 = .ok (.ifCond .le 10, 3) := by decide +kernel
theorem dX11_wrong_113 : decode cX11_wrong 113 = .ok (.iload 6, 2) := by decide +kernel
theorem dX11_wrong_115 : decode cX11_wrong 115 = .ok (.istore_n 3, 1) := by decide +kernel
theorem dX11_wrong_116 : decode cX11_wrong 116 = .ok (.lload 7, 2) := by decide +kernel
theorem dX11_wrong_118 : decode cX11_wrong 118 = .ok (.lstore 4, 2) := by decide +kernel
theorem dX11_wrong_120 : decode cX11_wrong 120 = .ok (.iinc 6 1, 3) := by decide +kernel
theorem dX11_wrong_123 : decode cX11_wrong 123 = .ok (.goto (-38), 3) := by decide +kernel
theorem dX11_wrong_126 : decode cX11_wrong 126 = .ok (.iload_n 2, 1) := by decide +kernel
theorem dX11_wrong_127 : decode cX11_wrong 127 = .ok (.iconst 1, 1) := by decide +kernel
theorem dX11_wrong_128 : decode cX11_wrong 128 = .ok (.if_icmp .ne 8, 3) := by decide +kernel
theorem dX11_wrong_131 : decode cX11_wrong 131 = .ok (.iload_n 3, 1) := by decide +kernel
theorem dX11_wrong_132 : decode cX11_wrong 132 = .ok (.i2l, 1) := by decide +kernel
theorem dX11_wrong_133 : decode cX11_wrong 133 = .ok (.goto 5, 3) := by decide +kernel
theorem dX11_wrong_136 : decode cX11_wrong 136 = .ok (.lload 4, 2) := by decide +kernel
theorem dX11_wrong_138 : decode cX11_wrong 138 = .ok (.lreturn, 1) := by decide +kernel
theorem dX11_shot_0 : decode cX11_shot 0 = .ok (.iload_n 1, 1) := by decide +kernel
theorem dX11_shot_1 : decode cX11_shot 1 = .ok (.invokestatic 95, 3) := by decide +kernel
theorem dX11_shot_4 : decode cX11_shot 4 = .ok (.ifCond .eq 25, 3) := by decide +kernel
theorem dX11_shot_7 : decode cX11_shot 7 = .ok (.aload_n 0, 1) := by decide +kernel
theorem dX11_shot_8 : decode cX11_shot 8 = .ok (.getfield 78, 3) := by decide +kernel
theorem dX11_shot_11 : decode cX11_shot 11 = .ok (.invokevirtual 256, 3) := by decide +kernel
theorem dX11_shot_14 : decode cX11_shot 14 = .ok (.ifCond .eq 15, 3) := by decide +kernel
theorem dX11_shot_17 : decode cX11_shot 17 = .ok (.aload_n 0, 1) := by decide +kernel
theorem dX11_shot_18 : decode cX11_shot 18 = .ok (.getfield 78, 3) := by decide +kernel
theorem dX11_shot_21 : decode cX11_shot 21 = .ok (.iload_n 1, 1) := by decide +kernel
theorem dX11_shot_22 : decode cX11_shot 22 = .ok (.iload_n 2, 1) := by decide +kernel
theorem dX11_shot_23 : decode cX11_shot 23 = .ok (.invokevirtual 259, 3) := by decide +kernel
theorem dX11_shot_26 : decode cX11_shot 26 = .ok (.goto 4, 3) := by decide +kernel
theorem dX11_shot_29 : decode cX11_shot 29 = .ok (.iconst (-1), 1) := by decide +kernel
theorem dX11_shot_30 : decode cX11_shot 30 = .ok (.ireturn, 1) := by decide +kernel
theorem dX11_book_0 : decode cX11_book 0 = .ok (.aload_n 0, 1) := by decide +kernel
theorem dX11_book_1 : decode cX11_book 1 = .ok (.getfield 78, 3) := by decide +kernel
theorem dX11_book_4 : decode cX11_book 4 = .ok (.iload_n 1, 1) := by decide +kernel
theorem dX11_book_5 : decode cX11_book 5 = .ok (.invokevirtual 263, 3) := by decide +kernel
theorem dX11_book_8 : decode cX11_book 8 = .ok (.ireturn, 1) := by decide +kernel
theorem dX11_fits_0 : decode cX11_fits 0 = .ok (.iload_n 1, 1) := by decide +kernel
theorem dX11_fits_1 : decode cX11_fits 1 = .ok (.iload_n 2, 1) := by decide +kernel
theorem dX11_fits_2 : decode cX11_fits 2 = .ok (.invokestatic 265, 3) := by decide +kernel
theorem dX11_fits_5 : decode cX11_fits 5 = .ok (.ifCond .eq 12, 3) := by decide +kernel
theorem dX11_fits_8 : decode cX11_fits 8 = .ok (.iload_n 3, 1) := by decide +kernel
theorem dX11_fits_9 : decode cX11_fits 9 = .ok (.iload 4, 2) := by decide +kernel
theorem dX11_fits_11 : decode cX11_fits 11 = .ok (.invokestatic 265, 3) := by decide +kernel
theorem dX11_fits_14 : decode cX11_fits 14 = .ok (.ifCond .ne 5, 3) := by decide +kernel
theorem dX11_fits_17 : decode cX11_fits 17 = .ok (.iconst (-1), 1) := by decide +kernel
theorem dX11_fits_18 : decode cX11_fits 18 = .ok (.ireturn, 1) := by decide +kernel
theorem dX11_fits_19 : decode cX11_fits 19 = .ok (.aload_n 0, 1) := by decide +kernel
theorem dX11_fits_20 : decode cX11_fits 20 = .ok (.getfield 78, 3) := by decide +kernel
theorem dX11_fits_23 : decode cX11_fits 23 = .ok (.iload_n 1, 1) := by decide +kernel
theorem dX11_fits_24 : decode cX11_fits 24 = .ok (.iload_n 2, 1) := by decide +kernel
theorem dX11_fits_25 : decode cX11_fits 25 = .ok (.iload_n 3, 1) := by decide +kernel
theorem dX11_fits_26 : decode cX11_fits 26 = .ok (.iload 4, 2) := by decide +kernel
theorem dX11_fits_28 : decode cX11_fits 28 = .ok (.invokevirtual 268, 3) := by decide +kernel
theorem dX11_fits_31 : decode cX11_fits 31 = .ok (.ireturn, 1) := by decide +kernel
theorem dX11_roll_0 : decode cX11_roll 0 = .ok (.iload_n 1, 1) := by decide +kernel
theorem dX11_roll_1 : decode cX11_roll 1 = .ok (.iload_n 2, 1) := by decide +kernel
theorem dX11_roll_2 : decode cX11_roll 2 = .ok (.invokestatic 271, 3) := by decide +kernel
theorem dX11_roll_5 : decode cX11_roll 5 = .ok (.ifCond .eq 35, 3) := by decide +kernel
theorem dX11_roll_8 : decode cX11_roll 8 = .ok (.iload_n 3, 1) := by decide +kernel
theorem dX11_roll_9 : decode cX11_roll 9 = .ok (.ifCond .lt 31, 3) := by decide +kernel
theorem dX11_roll_12 : decode cX11_roll 12 = .ok (.iload_n 3, 1) := by decide +kernel
theorem dX11_roll_13 : decode cX11_roll 13 = .ok (.iconst 3, 1) := by decide +kernel
theorem dX11_roll_14 : decode cX11_roll 14 = .ok (.if_icmp .gt 26, 3) := by decide +kernel
theorem dX11_roll_17 : decode cX11_roll 17 = .ok (.iload 4, 2) := by decide +kernel
theorem dX11_roll_19 : decode cX11_roll 19 = .ok (.ifCond .lt 21, 3) := by decide +kernel
theorem dX11_roll_22 : decode cX11_roll 22 = .ok (.iload 4, 2) := by decide +kernel
theorem dX11_roll_24 : decode cX11_roll 24 = .ok (.bipush 9, 2) := by decide +kernel
theorem dX11_roll_26 : decode cX11_roll 26 = .ok (.if_icmp .gt 14, 3) := by decide +kernel
theorem dX11_roll_29 : decode cX11_roll 29 = .ok (.iload 5, 2) := by decide +kernel
theorem dX11_roll_31 : decode cX11_roll 31 = .ok (.ifCond .lt 9, 3) := by decide +kernel
theorem dX11_roll_34 : decode cX11_roll 34 = .ok (.iload 5, 2) := by decide +kernel
theorem dX11_roll_36 : decode cX11_roll 36 = .ok (.iconst 1, 1) := by decide +kernel
theorem dX11_roll_37 : decode cX11_roll 37 = .ok (.if_icmp .le 5, 3) := by decide +kernel
theorem dX11_roll_40 : decode cX11_roll 40 = .ok (.iconst (-1), 1) := by decide +kernel
theorem dX11_roll_41 : decode cX11_roll 41 = .ok (.ireturn, 1) := by decide +kernel
theorem dX11_roll_42 : decode cX11_roll 42 = .ok (.aload_n 0, 1) := by decide +kernel
theorem dX11_roll_43 : decode cX11_roll 43 = .ok (.getfield 71, 3) := by decide +kernel
theorem dX11_roll_46 : decode cX11_roll 46 = .ok (.iload_n 1, 1) := by decide +kernel
theorem dX11_roll_47 : decode cX11_roll 47 = .ok (.iload_n 2, 1) := by decide +kernel
theorem dX11_roll_48 : decode cX11_roll 48 = .ok (.iload_n 3, 1) := by decide +kernel
theorem dX11_roll_49 : decode cX11_roll 49 = .ok (.iload 4, 2) := by decide +kernel
theorem dX11_roll_51 : decode cX11_roll 51 = .ok (.invokevirtual 274, 3) := by decide +kernel
theorem dX11_roll_54 : decode cX11_roll 54 = .ok (.iload 5, 2) := by decide +kernel
theorem dX11_roll_56 : decode cX11_roll 56 = .ok (.ifCond .ne 13, 3) := by decide +kernel
theorem dX11_roll_59 : decode cX11_roll 59 = .ok (.aload_n 0, 1) := by decide +kernel
theorem dX11_roll_60 : decode cX11_roll 60 = .ok (.getfield 71, 3) := by decide +kernel
theorem dX11_roll_63 : decode cX11_roll 63 = .ok (.getfield 278, 3) := by decide +kernel
theorem dX11_roll_66 : decode cX11_roll 66 = .ok (.goto 10, 3) := by decide +kernel
theorem dX11_roll_69 : decode cX11_roll 69 = .ok (.aload_n 0, 1) := by decide +kernel
theorem dX11_roll_70 : decode cX11_roll 70 = .ok (.getfield 71, 3) := by decide +kernel
theorem dX11_roll_73 : decode cX11_roll 73 = .ok (.getfield 281, 3) := by decide +kernel
theorem dX11_roll_76 : decode cX11_roll 76 = .ok (.ireturn, 1) := by decide +kernel
theorem dX11_lay_0 : decode cX11_lay 0 = .ok (.iload_n 1, 1) := by decide +kernel
theorem dX11_lay_1 : decode cX11_lay 1 = .ok (.iload_n 2, 1) := by decide +kernel
theorem dX11_lay_2 : decode cX11_lay 2 = .ok (.invokestatic 271, 3) := by decide +kernel
theorem dX11_lay_5 : decode cX11_lay 5 = .ok (.ifCond .eq 12, 3) := by decide +kernel
theorem dX11_lay_8 : decode cX11_lay 8 = .ok (.iload_n 3, 1) := by decide +kernel
theorem dX11_lay_9 : decode cX11_lay 9 = .ok (.ifCond .lt 8, 3) := by decide +kernel
theorem dX11_lay_12 : decode cX11_lay 12 = .ok (.iload_n 3, 1) := by decide +kernel
theorem dX11_lay_13 : decode cX11_lay 13 = .ok (.iconst 2, 1) := by decide +kernel
theorem dX11_lay_14 : decode cX11_lay 14 = .ok (.if_icmp .le 5, 3) := by decide +kernel
theorem dX11_lay_17 : decode cX11_lay 17 = .ok (.iconst (-1), 1) := by decide +kernel
theorem dX11_lay_18 : decode cX11_lay 18 = .ok (.ireturn, 1) := by decide +kernel
theorem dX11_lay_19 : decode cX11_lay 19 = .ok (.aload_n 0, 1) := by decide +kernel
theorem dX11_lay_20 : decode cX11_lay 20 = .ok (.getfield 71, 3) := by decide +kernel
theorem dX11_lay_23 : decode cX11_lay 23 = .ok (.iload_n 1, 1) := by decide +kernel
theorem dX11_lay_24 : decode cX11_lay 24 = .ok (.iload_n 2, 1) := by decide +kernel
theorem dX11_lay_25 : decode cX11_lay 25 = .ok (.invokevirtual 284, 3) := by decide +kernel
theorem dX11_lay_28 : decode cX11_lay 28 = .ok (.ifCond .ne 6, 3) := by decide +kernel
theorem dX11_lay_31 : decode cX11_lay 31 = .ok (.bipush (-2), 2) := by decide +kernel
theorem dX11_lay_33 : decode cX11_lay 33 = .ok (.ireturn, 1) := by decide +kernel
theorem dX11_lay_34 : decode cX11_lay 34 = .ok (.iload_n 3, 1) := by decide +kernel
theorem dX11_lay_35 : decode cX11_lay 35 = .ok (.iconst 2, 1) := by decide +kernel
theorem dX11_lay_36 : decode cX11_lay 36 = .ok (.if_icmp .ne 11, 3) := by decide +kernel
theorem dX11_lay_39 : decode cX11_lay 39 = .ok (.aload_n 0, 1) := by decide +kernel
theorem dX11_lay_40 : decode cX11_lay 40 = .ok (.getfield 71, 3) := by decide +kernel
theorem dX11_lay_43 : decode cX11_lay 43 = .ok (.getfield 287, 3) := by decide +kernel
theorem dX11_lay_46 : decode cX11_lay 46 = .ok (.ireturn, 1) := by decide +kernel
theorem dX11_lay_47 : decode cX11_lay 47 = .ok (.iload_n 3, 1) := by decide +kernel
theorem dX11_lay_48 : decode cX11_lay 48 = .ok (.ifCond .ne 13, 3) := by decide +kernel
theorem dX11_lay_51 : decode cX11_lay 51 = .ok (.aload_n 0, 1) := by decide +kernel
theorem dX11_lay_52 : decode cX11_lay 52 = .ok (.getfield 71, 3) := by decide +kernel
theorem dX11_lay_55 : decode cX11_lay 55 = .ok (.getfield 290, 3) := by decide +kernel
theorem dX11_lay_58 : decode cX11_lay 58 = .ok (.goto 10, 3) := by decide +kernel
theorem dX11_lay_61 : decode cX11_lay 61 = .ok (.aload_n 0, 1) := by decide +kernel
theorem dX11_lay_62 : decode cX11_lay 62 = .ok (.getfield 71, 3) := by decide +kernel
theorem dX11_lay_65 : decode cX11_lay 65 = .ok (.getfield 293, 3) := by decide +kernel
theorem dX11_lay_68 : decode cX11_lay 68 = .ok (.ireturn, 1) := by decide +kernel
theorem dX11_ball_0 : decode cX11_ball 0 = .ok (.iload_n 1, 1) := by decide +kernel
theorem dX11_ball_1 : decode cX11_ball 1 = .ok (.invokestatic 198, 3) := by decide +kernel
theorem dX11_ball_4 : decode cX11_ball 4 = .ok (.ifCond .eq 34, 3) := by decide +kernel
theorem dX11_ball_7 : decode cX11_ball 7 = .ok (.iload_n 2, 1) := by decide +kernel
theorem dX11_ball_8 : decode cX11_ball 8 = .ok (.iload_n 3, 1) := by decide +kernel
theorem dX11_ball_9 : decode cX11_ball 9 = .ok (.invokestatic 296, 3) := by decide +kernel
theorem dX11_ball_12 : decode cX11_ball 12 = .ok (.ifCond .eq 26, 3) := by decide +kernel
theorem dX11_ball_15 : decode cX11_ball 15 = .ok (.aload_n 0, 1) := by decide +kernel
theorem dX11_ball_16 : decode cX11_ball 16 = .ok (.getfield 85, 3) := by decide +kernel
theorem dX11_ball_19 : decode cX11_ball 19 = .ok (.invokevirtual 299, 3) := by decide +kernel
theorem dX11_ball_22 : decode cX11_ball 22 = .ok (.ifCond .eq 16, 3) := by decide +kernel
theorem dX11_ball_25 : decode cX11_ball 25 = .ok (.aload_n 0, 1) := by decide +kernel
theorem dX11_ball_26 : decode cX11_ball 26 = .ok (.getfield 85, 3) := by decide +kernel
theorem dX11_ball_29 : decode cX11_ball 29 = .ok (.iload_n 1, 1) := by decide +kernel
theorem dX11_ball_30 : decode cX11_ball 30 = .ok (.iload_n 2, 1) := by decide +kernel
theorem dX11_ball_31 : decode cX11_ball 31 = .ok (.iload_n 3, 1) := by decide +kernel
theorem dX11_ball_32 : decode cX11_ball 32 = .ok (.invokevirtual 300, 3) := by decide +kernel
theorem dX11_ball_35 : decode cX11_ball 35 = .ok (.goto 4, 3) := by decide +kernel
theorem dX11_ball_38 : decode cX11_ball 38 = .ok (.iconst (-1), 1) := by decide +kernel
theorem dX11_ball_39 : decode cX11_ball 39 = .ok (.ireturn, 1) := by decide +kernel
theorem dX11_pig_0 : decode cX11_pig 0 = .ok (.iload_n 1, 1) := by decide +kernel
theorem dX11_pig_1 : decode cX11_pig 1 = .ok (.iload_n 2, 1) := by decide +kernel
theorem dX11_pig_2 : decode cX11_pig 2 = .ok (.invokestatic 296, 3) := by decide +kernel
theorem dX11_pig_5 : decode cX11_pig 5 = .ok (.ifCond .ne 5, 3) := by decide +kernel
theorem dX11_pig_8 : decode cX11_pig 8 = .ok (.iconst 0, 1) := by decide +kernel
theorem dX11_pig_9 : decode cX11_pig 9 = .ok (.ireturn, 1) := by decide +kernel
theorem dX11_pig_10 : decode cX11_pig 10 = .ok (.aload_n 0, 1) := by decide +kernel
theorem dX11_pig_11 : decode cX11_pig 11 = .ok (.getfield 85, 3) := by decide +kernel
theorem dX11_pig_14 : decode cX11_pig 14 = .ok (.iload_n 1, 1) := by decide +kernel
theorem dX11_pig_15 : decode cX11_pig 15 = .ok (.putfield 302, 3) := by decide +kernel
theorem dX11_pig_18 : decode cX11_pig 18 = .ok (.aload_n 0, 1) := by decide +kernel
theorem dX11_pig_19 : decode cX11_pig 19 = .ok (.getfield 85, 3) := by decide +kernel
theorem dX11_pig_22 : decode cX11_pig 22 = .ok (.iload_n 2, 1) := by decide +kernel
theorem dX11_pig_23 : decode cX11_pig 23 = .ok (.putfield 305, 3) := by decide +kernel
theorem dX11_pig_26 : decode cX11_pig 26 = .ok (.iconst 1, 1) := by decide +kernel
theorem dX11_pig_27 : decode cX11_pig 27 = .ok (.ireturn, 1) := by decide +kernel
theorem dX11_gone_0 : decode cX11_gone 0 = .ok (.iload_n 1, 1) := by decide +kernel
theorem dX11_gone_1 : decode cX11_gone 1 = .ok (.ifCond .lt 14, 3) := by decide +kernel
theorem dX11_gone_4 : decode cX11_gone 4 = .ok (.iload_n 1, 1) := by decide +kernel
theorem dX11_gone_5 : decode cX11_gone 5 = .ok (.aload_n 0, 1) := by decide +kernel
theorem dX11_gone_6 : decode cX11_gone 6 = .ok (.getfield 85, 3) := by decide +kernel
theorem dX11_gone_9 : decode cX11_gone 9 = .ok (.getfield 308, 3) := by decide +kernel
theorem dX11_gone_12 : decode cX11_gone 12 = .ok (.if_icmp .lt 5, 3) := by decide +kernel
theorem dX11_gone_15 : decode cX11_gone 15 = .ok (.iconst 0, 1) := by decide +kernel
theorem dX11_gone_16 : decode cX11_gone 16 = .ok (.ireturn, 1) := by decide +kernel
theorem dX11_gone_17 : decode cX11_gone 17 = .ok (.aload_n 0, 1) := by decide +kernel
theorem dX11_gone_18 : decode cX11_gone 18 = .ok (.getfield 85, 3) := by decide +kernel
theorem dX11_gone_21 : decode cX11_gone 21 = .ok (.iload_n 1, 1) := by decide +kernel
theorem dX11_gone_22 : decode cX11_gone 22 = .ok (.invokevirtual 309, 3) := by decide +kernel
theorem dX11_gone_25 : decode cX11_gone 25 = .ok (.iconst 1, 1) := by decide +kernel
theorem dX11_gone_26 : decode cX11_gone 26 = .ok (.ireturn, 1) := by decide +kernel
theorem dX11_measured_0 : decode cX11_measured 0 = .ok (.iload_n 1, 1) := by decide +kernel
theorem dX11_measured_1 : decode cX11_measured 1 = .ok (.tableswitch 64 0 3 #[31, 39, 48, 56], 31) := by decide +kernel
theorem dX11_measured_32 : decode cX11_measured 32 = .ok (.aload_n 0, 1) := by decide +kernel
theorem dX11_measured_33 : decode cX11_measured 33 = .ok (.getfield 85, 3) := by decide +kernel
theorem dX11_measured_36 : decode cX11_measured 36 = .ok (.invokevirtual 312, 3) := by decide +kernel
theorem dX11_measured_39 : decode cX11_measured 39 = .ok (.ireturn, 1) := by decide +kernel
theorem dX11_measured_40 : decode cX11_measured 40 = .ok (.aload_n 0, 1) := by decide +kernel
theorem dX11_measured_41 : decode cX11_measured 41 = .ok (.getfield 85, 3) := by decide +kernel
theorem dX11_measured_44 : decode cX11_measured 44 = .ok (.iconst (-1), 1) := by decide +kernel
theorem dX11_measured_45 : decode cX11_measured 45 = .ok (.invokevirtual 315, 3) := by decide +kernel
theorem dX11_measured_48 : decode cX11_measured 48 = .ok (.ireturn, 1) := by decide +kernel
theorem dX11_measured_49 : decode cX11_measured 49 = .ok (.aload_n 0, 1) := by decide +kernel
theorem dX11_measured_50 : decode cX11_measured 50 = .ok (.getfield 85, 3) := by decide +kernel
theorem dX11_measured_53 : decode cX11_measured 53 = .ok (.invokevirtual 318, 3) := by decide +kernel
theorem dX11_measured_56 : decode cX11_measured 56 = .ok (.ireturn, 1) := by decide +kernel
theorem dX11_measured_57 : decode cX11_measured 57 = .ok (.aload_n 0, 1) := by decide +kernel
theorem dX11_measured_58 : decode cX11_measured 58 = .ok (.getfield 85, 3) := by decide +kernel
theorem dX11_measured_61 : decode cX11_measured 61 = .ok (.invokevirtual 321, 3) := by decide +kernel
theorem dX11_measured_64 : decode cX11_measured 64 = .ok (.ireturn, 1) := by decide +kernel
theorem dX11_measured_65 : decode cX11_measured 65 = .ok (.bipush (-100), 2) := by decide +kernel
theorem dX11_measured_67 : decode cX11_measured 67 = .ok (.ireturn, 1) := by decide +kernel
theorem dX11_toShoot_0 : decode cX11_toShoot 0 = .ok (.iload_n 1, 1) := by decide +kernel
theorem dX11_toShoot_1 : decode cX11_toShoot 1 = .ok (.invokestatic 198, 3) := by decide +kernel
theorem dX11_toShoot_4 : decode cX11_toShoot 4 = .ok (.ifCond .eq 14, 3) := by decide +kernel
theorem dX11_toShoot_7 : decode cX11_toShoot 7 = .ok (.aload_n 0, 1) := by decide +kernel
theorem dX11_toShoot_8 : decode cX11_toShoot 8 = .ok (.getfield 85, 3) := by decide +kernel
theorem dX11_toShoot_11 : decode cX11_toShoot 11 = .ok (.iload_n 1, 1) := by decide +kernel
theorem dX11_toShoot_12 : decode cX11_toShoot 12 = .ok (.invokevirtual 324, 3) := by decide +kernel
theorem dX11_toShoot_15 : decode cX11_toShoot 15 = .ok (.goto 4, 3) := by decide +kernel
theorem dX11_toShoot_18 : decode cX11_toShoot 18 = .ok (.iconst (-1), 1) := by decide +kernel
theorem dX11_toShoot_19 : decode cX11_toShoot 19 = .ok (.ireturn, 1) := by decide +kernel
theorem dX11_seed_0 : decode cX11_seed 0 = .ok (.iload_n 1, 1) := by decide +kernel
theorem dX11_seed_1 : decode cX11_seed 1 = .ok (.ifCond .lt 10, 3) := by decide +kernel
theorem dX11_seed_4 : decode cX11_seed 4 = .ok (.iload_n 1, 1) := by decide +kernel
theorem dX11_seed_5 : decode cX11_seed 5 = .ok (.ldc_w 327, 3) := by decide +kernel
theorem dX11_seed_8 : decode cX11_seed 8 = .ok (.if_icmp .le 5, 3) := by decide +kernel
theorem dX11_seed_11 : decode cX11_seed 11 = .ok (.iconst 0, 1) := by decide +kernel
theorem dX11_seed_12 : decode cX11_seed 12 = .ok (.ireturn, 1) := by decide +kernel
theorem dX11_seed_13 : decode cX11_seed 13 = .ok (.aload_n 0, 1) := by decide +kernel
theorem dX11_seed_14 : decode cX11_seed 14 = .ok (.iload_n 1, 1) := by decide +kernel
theorem dX11_seed_15 : decode cX11_seed 15 = .ok (.putfield 13, 3) := by decide +kernel
theorem dX11_seed_18 : decode cX11_seed 18 = .ok (.iconst 1, 1) := by decide +kernel
theorem dX11_seed_19 : decode cX11_seed 19 = .ok (.ireturn, 1) := by decide +kernel
theorem dX11_keep_0 : decode cX11_keep 0 = .ok (.aload_n 0, 1) := by decide +kernel
theorem dX11_keep_1 : decode cX11_keep 1 = .ok (.iconst 1, 1) := by decide +kernel
theorem dX11_keep_2 : decode cX11_keep 2 = .ok (.putfield 328, 3) := by decide +kernel
theorem dX11_keep_5 : decode cX11_keep 5 = .ok (.aload_n 0, 1) := by decide +kernel
theorem dX11_keep_6 : decode cX11_keep 6 = .ok (.aload_n 0, 1) := by decide +kernel
theorem dX11_keep_7 : decode cX11_keep 7 = .ok (.getfield 7, 3) := by decide +kernel
theorem dX11_keep_10 : decode cX11_keep 10 = .ok (.putfield 332, 3) := by decide +kernel
theorem dX11_keep_13 : decode cX11_keep 13 = .ok (.aload_n 0, 1) := by decide +kernel
theorem dX11_keep_14 : decode cX11_keep 14 = .ok (.aload_n 0, 1) := by decide +kernel
theorem dX11_keep_15 : decode cX11_keep 15 = .ok (.getfield 13, 3) := by decide +kernel
theorem dX11_keep_18 : decode cX11_keep 18 = .ok (.putfield 335, 3) := by decide +kernel
theorem dX11_keep_21 : decode cX11_keep 21 = .ok (.aload_n 0, 1) := by decide +kernel
theorem dX11_keep_22 : decode cX11_keep 22 = .ok (.getfield 89, 3) := by decide +kernel
theorem dX11_keep_25 : decode cX11_keep 25 = .ok (.aload_n 0, 1) := by decide +kernel
theorem dX11_keep_26 : decode cX11_keep 26 = .ok (.getfield 78, 3) := by decide +kernel
theorem dX11_keep_29 : decode cX11_keep 29 = .ok (.invokevirtual 338, 3) := by decide +kernel
theorem dX11_keep_32 : decode cX11_keep 32 = .ok (.aload_n 0, 1) := by decide +kernel
theorem dX11_keep_33 : decode cX11_keep 33 = .ok (.getfield 92, 3) := by decide +kernel
theorem dX11_keep_36 : decode cX11_keep 36 = .ok (.aload_n 0, 1) := by decide +kernel
theorem dX11_keep_37 : decode cX11_keep 37 = .ok (.getfield 85, 3) := by decide +kernel
theorem dX11_keep_40 : decode cX11_keep 40 = .ok (.invokevirtual 341, 3) := by decide +kernel
theorem dX11_keep_43 : decode cX11_keep 43 = .ok (.aload_n 0, 1) := by decide +kernel
theorem dX11_keep_44 : decode cX11_keep 44 = .ok (.getfield 78, 3) := by decide +kernel
theorem dX11_keep_47 : decode cX11_keep 47 = .ok (.getfield 344, 3) := by decide +kernel
theorem dX11_keep_50 : decode cX11_keep 50 = .ok (.ireturn, 1) := by decide +kernel
theorem dX11_undo_0 : decode cX11_undo 0 = .ok (.aload_n 0, 1) := by decide +kernel
theorem dX11_undo_1 : decode cX11_undo 1 = .ok (.getfield 328, 3) := by decide +kernel
theorem dX11_undo_4 : decode cX11_undo 4 = .ok (.ifCond .ne 5, 3) := by decide +kernel
theorem dX11_undo_7 : decode cX11_undo 7 = .ok (.iconst 0, 1) := by decide +kernel
theorem dX11_undo_8 : decode cX11_undo 8 = .ok (.ireturn, 1) := by decide +kernel
theorem dX11_undo_9 : decode cX11_undo 9 = .ok (.aload_n 0, 1) := by decide +kernel
theorem dX11_undo_10 : decode cX11_undo 10 = .ok (.aload_n 0, 1) := by decide +kernel
theorem dX11_undo_11 : decode cX11_undo 11 = .ok (.getfield 332, 3) := by decide +kernel
theorem dX11_undo_14 : decode cX11_undo 14 = .ok (.putfield 7, 3) := by decide +kernel
theorem dX11_undo_17 : decode cX11_undo 17 = .ok (.aload_n 0, 1) := by decide +kernel
theorem dX11_undo_18 : decode cX11_undo 18 = .ok (.aload_n 0, 1) := by decide +kernel
theorem dX11_undo_19 : decode cX11_undo 19 = .ok (.getfield 335, 3) := by decide +kernel
theorem dX11_undo_22 : decode cX11_undo 22 = .ok (.putfield 13, 3) := by decide +kernel
theorem dX11_undo_25 : decode cX11_undo 25 = .ok (.aload_n 0, 1) := by decide +kernel
theorem dX11_undo_26 : decode cX11_undo 26 = .ok (.getfield 78, 3) := by decide +kernel
theorem dX11_undo_29 : decode cX11_undo 29 = .ok (.aload_n 0, 1) := by decide +kernel
theorem dX11_undo_30 : decode cX11_undo 30 = .ok (.getfield 89, 3) := by decide +kernel
theorem dX11_undo_33 : decode cX11_undo 33 = .ok (.invokevirtual 338, 3) := by decide +kernel
theorem dX11_undo_36 : decode cX11_undo 36 = .ok (.aload_n 0, 1) := by decide +kernel
theorem dX11_undo_37 : decode cX11_undo 37 = .ok (.getfield 85, 3) := by decide +kernel
theorem dX11_undo_40 : decode cX11_undo 40 = .ok (.aload_n 0, 1) := by decide +kernel
theorem dX11_undo_41 : decode cX11_undo 41 = .ok (.getfield 92, 3) := by decide +kernel
theorem dX11_undo_44 : decode cX11_undo 44 = .ok (.invokevirtual 341, 3) := by decide +kernel
theorem dX11_undo_47 : decode cX11_undo 47 = .ok (.aload_n 0, 1) := by decide +kernel
theorem dX11_undo_48 : decode cX11_undo 48 = .ok (.getfield 64, 3) := by decide +kernel
theorem dX11_undo_51 : decode cX11_undo 51 = .ok (.invokevirtual 99, 3) := by decide +kernel
theorem dX11_undo_54 : decode cX11_undo 54 = .ok (.iconst 1, 1) := by decide +kernel
theorem dX11_undo_55 : decode cX11_undo 55 = .ok (.ireturn, 1) := by decide +kernel
theorem dX11_check_0 : decode cX11_check 0 = .ok (.iload_n 1, 1) := by decide +kernel
theorem dX11_check_1 : decode cX11_check 1 = .ok (.ifCond .lt 22, 3) := by decide +kernel
theorem dX11_check_4 : decode cX11_check 4 = .ok (.iload_n 1, 1) := by decide +kernel
theorem dX11_check_5 : decode cX11_check 5 = .ok (.bipush 8, 2) := by decide +kernel
theorem dX11_check_7 : decode cX11_check 7 = .ok (.if_icmp .gt 16, 3) := by decide +kernel
theorem dX11_check_10 : decode cX11_check 10 = .ok (.iconst 4, 1) := by decide +kernel
theorem dX11_check_11 : decode cX11_check 11 = .ok (.iload_n 1, 1) := by decide +kernel
theorem dX11_check_12 : decode cX11_check 12 = .ok (.imul, 1) := by decide +kernel
theorem dX11_check_13 : decode cX11_check 13 = .ok (.aload_n 0, 1) := by decide +kernel
theorem dX11_check_14 : decode cX11_check 14 = .ok (.getfield 19, 3) := by decide +kernel
theorem dX11_check_17 : decode cX11_check 17 = .ok (.getfield 110, 3) := by decide +kernel
theorem dX11_check_20 : decode cX11_check 20 = .ok (.if_icmp .le 6, 3) := by decide +kernel
theorem dX11_check_23 : decode cX11_check 23 = .ok (.bipush (-2), 2) := by decide +kernel
theorem dX11_check_25 : decode cX11_check 25 = .ok (.ireturn, 1) := by decide +kernel
theorem dX11_check_26 : decode cX11_check 26 = .ok (.aload_n 0, 1) := by decide +kernel
theorem dX11_check_27 : decode cX11_check 27 = .ok (.getfield 19, 3) := by decide +kernel
theorem dX11_check_30 : decode cX11_check 30 = .ok (.iconst 0, 1) := by decide +kernel
theorem dX11_check_31 : decode cX11_check 31 = .ok (.putfield 110, 3) := by decide +kernel
theorem dX11_check_34 : decode cX11_check 34 = .ok (.iconst 0, 1) := by decide +kernel
theorem dX11_check_35 : decode cX11_check 35 = .ok (.istore_n 2, 1) := by decide +kernel
theorem dX11_check_36 : decode cX11_check 36 = .ok (.iload_n 2, 1) := by decide +kernel
theorem dX11_check_37 : decode cX11_check 37 = .ok (.iload_n 1, 1) := by decide +kernel
theorem dX11_check_38 : decode cX11_check 38 = .ok (.if_icmp .ge 30, 3) := by decide +kernel
theorem dX11_check_41 : decode cX11_check 41 = .ok (.aload_n 0, 1) := by decide +kernel
theorem dX11_check_42 : decode cX11_check 42 = .ok (.getfield 19, 3) := by decide +kernel
theorem dX11_check_45 : decode cX11_check 45 = .ok (.iload_n 2, 1) := by decide +kernel
theorem dX11_check_46 : decode cX11_check 46 = .ok (.invokevirtual 345, 3) := by decide +kernel
theorem dX11_check_49 : decode cX11_check 49 = .ok (.aload_n 0, 1) := by decide +kernel
theorem dX11_check_50 : decode cX11_check 50 = .ok (.getfield 71, 3) := by decide +kernel
theorem dX11_check_53 : decode cX11_check 53 = .ok (.iload_n 2, 1) := by decide +kernel
theorem dX11_check_54 : decode cX11_check 54 = .ok (.invokevirtual 348, 3) := by decide +kernel
theorem dX11_check_57 : decode cX11_check 57 = .ok (.if_icmp .eq 5, 3) := by decide +kernel
theorem dX11_check_60 : decode cX11_check 60 = .ok (.iload_n 2, 1) := by decide +kernel
theorem dX11_check_61 : decode cX11_check 61 = .ok (.ireturn, 1) := by decide +kernel
theorem dX11_check_62 : decode cX11_check 62 = .ok (.iinc 2 1, 3) := by decide +kernel
theorem dX11_check_65 : decode cX11_check 65 = .ok (.goto (-29), 3) := by decide +kernel
theorem dX11_check_68 : decode cX11_check 68 = .ok (.iconst (-1), 1) := by decide +kernel
theorem dX11_check_69 : decode cX11_check 69 = .ok (.ireturn, 1) := by decide +kernel
theorem dX11_count_0 : decode cX11_count 0 = .ok (.iload_n 1, 1) := by decide +kernel
theorem dX11_count_1 : decode cX11_count 1 = .ok (.tableswitch 92 0 5 #[39, 44, 52, 60, 65, 73], 39) := by decide +kernel
theorem dX11_count_40 : decode cX11_count 40 = .ok (.aload_n 0, 1) := by decide +kernel
theorem dX11_count_41 : decode cX11_count 41 = .ok (.getfield 7, 3) := by decide +kernel
theorem dX11_count_44 : decode cX11_count 44 = .ok (.ireturn, 1) := by decide +kernel
theorem dX11_count_45 : decode cX11_count 45 = .ok (.aload_n 0, 1) := by decide +kernel
theorem dX11_count_46 : decode cX11_count 46 = .ok (.getfield 46, 3) := by decide +kernel
theorem dX11_count_49 : decode cX11_count 49 = .ok (.getfield 351, 3) := by decide +kernel
theorem dX11_count_52 : decode cX11_count 52 = .ok (.ireturn, 1) := by decide +kernel
theorem dX11_count_53 : decode cX11_count 53 = .ok (.aload_n 0, 1) := by decide +kernel
theorem dX11_count_54 : decode cX11_count 54 = .ok (.getfield 19, 3) := by decide +kernel
theorem dX11_count_57 : decode cX11_count 57 = .ok (.getfield 110, 3) := by decide +kernel
theorem dX11_count_60 : decode cX11_count 60 = .ok (.ireturn, 1) := by decide +kernel
theorem dX11_count_61 : decode cX11_count 61 = .ok (.aload_n 0, 1) := by decide +kernel
theorem dX11_count_62 : decode cX11_count 62 = .ok (.getfield 13, 3) := by decide +kernel
theorem dX11_count_65 : decode cX11_count 65 = .ok (.ireturn, 1) := by decide +kernel
theorem dX11_count_66 : decode cX11_count 66 = .ok (.aload_n 0, 1) := by decide +kernel
theorem dX11_count_67 : decode cX11_count 67 = .ok (.getfield 85, 3) := by decide +kernel
theorem dX11_count_70 : decode cX11_count 70 = .ok (.getfield 308, 3) := by decide +kernel
theorem dX11_count_73 : decode cX11_count 73 = .ok (.ireturn, 1) := by decide +kernel
theorem dX11_count_74 : decode cX11_count 74 = .ok (.bipush 100, 2) := by decide +kernel
theorem dX11_count_76 : decode cX11_count 76 = .ok (.aload_n 0, 1) := by decide +kernel
theorem dX11_count_77 : decode cX11_count 77 = .ok (.getfield 85, 3) := by decide +kernel
theorem dX11_count_80 : decode cX11_count 80 = .ok (.getfield 305, 3) := by decide +kernel
theorem dX11_count_83 : decode cX11_count 83 = .ok (.imul, 1) := by decide +kernel
theorem dX11_count_84 : decode cX11_count 84 = .ok (.aload_n 0, 1) := by decide +kernel
theorem dX11_count_85 : decode cX11_count 85 = .ok (.getfield 85, 3) := by decide +kernel
theorem dX11_count_88 : decode cX11_count 88 = .ok (.getfield 302, 3) := by decide +kernel
theorem dX11_count_91 : decode cX11_count 91 = .ok (.iadd, 1) := by decide +kernel
theorem dX11_count_92 : decode cX11_count 92 = .ok (.ireturn, 1) := by decide +kernel
theorem dX11_count_93 : decode cX11_count 93 = .ok (.aload_n 0, 1) := by decide +kernel
theorem dX11_count_94 : decode cX11_count 94 = .ok (.iload_n 1, 1) := by decide +kernel
theorem dX11_count_95 : decode cX11_count 95 = .ok (.invokevirtual 354, 3) := by decide +kernel
theorem dX11_count_98 : decode cX11_count 98 = .ok (.ireturn, 1) := by decide +kernel
theorem dX11_countOfMany_0 : decode cX11_countOfMany 0 = .ok (.iload_n 1, 1) := by decide +kernel
theorem dX11_countOfMany_1 : decode cX11_countOfMany 1 = .ok (.bipush 10, 2) := by decide +kernel
theorem dX11_countOfMany_3 : decode cX11_countOfMany 3 = .ok (.if_icmp .lt 22, 3) := by decide +kernel
theorem dX11_countOfMany_6 : decode cX11_countOfMany 6 = .ok (.iload_n 1, 1) := by decide +kernel
theorem dX11_countOfMany_7 : decode cX11_countOfMany 7 = .ok (.bipush 14, 2) := by decide +kernel
theorem dX11_countOfMany_9 : decode cX11_countOfMany 9 = .ok (.if_icmp .ge 16, 3) := by decide +kernel
theorem dX11_countOfMany_12 : decode cX11_countOfMany 12 = .ok (.aload_n 0, 1) := by decide +kernel
theorem dX11_countOfMany_13 : decode cX11_countOfMany 13 = .ok (.getfield 53, 3) := by decide +kernel
theorem dX11_countOfMany_16 : decode cX11_countOfMany 16 = .ok (.iload_n 1, 1) := by decide +kernel
theorem dX11_countOfMany_17 : decode cX11_countOfMany 17 = .ok (.bipush 10, 2) := by decide +kernel
theorem dX11_countOfMany_19 : decode cX11_countOfMany 19 = .ok (.isub, 1) := by decide +kernel
theorem dX11_countOfMany_20 : decode cX11_countOfMany 20 = .ok (.aaload, 1) := by decide +kernel
theorem dX11_countOfMany_21 : decode cX11_countOfMany 21 = .ok (.getfield 351, 3) := by decide +kernel
theorem dX11_countOfMany_24 : decode cX11_countOfMany 24 = .ok (.ireturn, 1) := by decide +kernel
theorem dX11_countOfMany_25 : decode cX11_countOfMany 25 = .ok (.iload_n 1, 1) := by decide +kernel
theorem dX11_countOfMany_26 : decode cX11_countOfMany 26 = .ok (.bipush 20, 2) := by decide +kernel
theorem dX11_countOfMany_28 : decode cX11_countOfMany 28 = .ok (.if_icmp .lt 29, 3) := by decide +kernel
theorem dX11_countOfMany_31 : decode cX11_countOfMany 31 = .ok (.iload_n 1, 1) := by decide +kernel
theorem dX11_countOfMany_32 : decode cX11_countOfMany 32 = .ok (.bipush 20, 2) := by decide +kernel
theorem dX11_countOfMany_34 : decode cX11_countOfMany 34 = .ok (.aload_n 0, 1) := by decide +kernel
theorem dX11_countOfMany_35 : decode cX11_countOfMany 35 = .ok (.getfield 85, 3) := by decide +kernel
theorem dX11_countOfMany_38 : decode cX11_countOfMany 38 = .ok (.getfield 308, 3) := by decide +kernel
theorem dX11_countOfMany_41 : decode cX11_countOfMany 41 = .ok (.iadd, 1) := by decide +kernel
theorem dX11_countOfMany_42 : decode cX11_countOfMany 42 = .ok (.if_icmp .ge 15, 3) := by decide +kernel
theorem dX11_countOfMany_45 : decode cX11_countOfMany 45 = .ok (.aload_n 0, 1) := by decide +kernel
theorem dX11_countOfMany_46 : decode cX11_countOfMany 46 = .ok (.getfield 85, 3) := by decide +kernel
theorem dX11_countOfMany_49 : decode cX11_countOfMany 49 = .ok (.iload_n 1, 1) := by decide +kernel
theorem dX11_countOfMany_50 : decode cX11_countOfMany 50 = .ok (.bipush 20, 2) := by decide +kernel
theorem dX11_countOfMany_52 : decode cX11_countOfMany 52 = .ok (.isub, 1) := by decide +kernel
theorem dX11_countOfMany_53 : decode cX11_countOfMany 53 = .ok (.invokevirtual 357, 3) := by decide +kernel
theorem dX11_countOfMany_56 : decode cX11_countOfMany 56 = .ok (.ireturn, 1) := by decide +kernel
theorem dX11_countOfMany_57 : decode cX11_countOfMany 57 = .ok (.iload_n 1, 1) := by decide +kernel
theorem dX11_countOfMany_58 : decode cX11_countOfMany 58 = .ok (.bipush 40, 2) := by decide +kernel
theorem dX11_countOfMany_60 : decode cX11_countOfMany 60 = .ok (.if_icmp .lt 29, 3) := by decide +kernel
theorem dX11_countOfMany_63 : decode cX11_countOfMany 63 = .ok (.iload_n 1, 1) := by decide +kernel
theorem dX11_countOfMany_64 : decode cX11_countOfMany 64 = .ok (.bipush 40, 2) := by decide +kernel
theorem dX11_countOfMany_66 : decode cX11_countOfMany 66 = .ok (.aload_n 0, 1) := by decide +kernel
theorem dX11_countOfMany_67 : decode cX11_countOfMany 67 = .ok (.getfield 85, 3) := by decide +kernel
theorem dX11_countOfMany_70 : decode cX11_countOfMany 70 = .ok (.getfield 308, 3) := by decide +kernel
theorem dX11_countOfMany_73 : decode cX11_countOfMany 73 = .ok (.iadd, 1) := by decide +kernel
theorem dX11_countOfMany_74 : decode cX11_countOfMany 74 = .ok (.if_icmp .ge 15, 3) := by decide +kernel
theorem dX11_countOfMany_77 : decode cX11_countOfMany 77 = .ok (.aload_n 0, 1) := by decide +kernel
theorem dX11_countOfMany_78 : decode cX11_countOfMany 78 = .ok (.getfield 85, 3) := by decide +kernel
theorem dX11_countOfMany_81 : decode cX11_countOfMany 81 = .ok (.iload_n 1, 1) := by decide +kernel
theorem dX11_countOfMany_82 : decode cX11_countOfMany 82 = .ok (.bipush 40, 2) := by decide +kernel
theorem dX11_countOfMany_84 : decode cX11_countOfMany 84 = .ok (.isub, 1) := by decide +kernel
theorem dX11_countOfMany_85 : decode cX11_countOfMany 85 = .ok (.invokevirtual 360, 3) := by decide +kernel
theorem dX11_countOfMany_88 : decode cX11_countOfMany 88 = .ok (.ireturn, 1) := by decide +kernel
theorem dX11_countOfMany_89 : decode cX11_countOfMany 89 = .ok (.iload_n 1, 1) := by decide +kernel
theorem dX11_countOfMany_90 : decode cX11_countOfMany 90 = .ok (.bipush 100, 2) := by decide +kernel
theorem dX11_countOfMany_92 : decode cX11_countOfMany 92 = .ok (.if_icmp .lt 22, 3) := by decide +kernel
theorem dX11_countOfMany_95 : decode cX11_countOfMany 95 = .ok (.iload_n 1, 1) := by decide +kernel
theorem dX11_countOfMany_96 : decode cX11_countOfMany 96 = .ok (.sipush 164, 3) := by decide +kernel
theorem dX11_countOfMany_99 : decode cX11_countOfMany 99 = .ok (.if_icmp .ge 15, 3) := by decide +kernel
theorem dX11_countOfMany_102 : decode cX11_countOfMany 102 = .ok (.aload_n 0, 1) := by decide +kernel
theorem dX11_countOfMany_103 : decode cX11_countOfMany 103 = .ok (.getfield 71, 3) := by decide +kernel
theorem dX11_countOfMany_106 : decode cX11_countOfMany 106 = .ok (.iload_n 1, 1) := by decide +kernel
theorem dX11_countOfMany_107 : decode cX11_countOfMany 107 = .ok (.bipush 100, 2) := by decide +kernel
theorem dX11_countOfMany_109 : decode cX11_countOfMany 109 = .ok (.isub, 1) := by decide +kernel
theorem dX11_countOfMany_110 : decode cX11_countOfMany 110 = .ok (.invokevirtual 348, 3) := by decide +kernel
theorem dX11_countOfMany_113 : decode cX11_countOfMany 113 = .ok (.ireturn, 1) := by decide +kernel
theorem dX11_countOfMany_114 : decode cX11_countOfMany 114 = .ok (.iconst (-1), 1) := by decide +kernel
theorem dX11_countOfMany_115 : decode cX11_countOfMany 115 = .ok (.ireturn, 1) := by decide +kernel
theorem dX11_canTake_0 : decode cX11_canTake 0 = .ok (.iload_n 1, 1) := by decide +kernel
theorem dX11_canTake_1 : decode cX11_canTake 1 = .ok (.iconst 1, 1) := by decide +kernel
theorem dX11_canTake_2 : decode cX11_canTake 2 = .ok (.if_icmp .lt 23, 3) := by decide +kernel
theorem dX11_canTake_5 : decode cX11_canTake 5 = .ok (.iload_n 1, 1) := by decide +kernel
theorem dX11_canTake_6 : decode cX11_canTake 6 = .ok (.iload_n 2, 1) := by decide +kernel
theorem dX11_canTake_7 : decode cX11_canTake 7 = .ok (.if_icmp .gt 18, 3) := by decide +kernel
theorem dX11_canTake_10 : decode cX11_canTake 10 = .ok (.iload_n 1, 1) := by decide +kernel
theorem dX11_canTake_11 : decode cX11_canTake 11 = .ok (.aload_n 0, 1) := by decide +kernel
theorem dX11_canTake_12 : decode cX11_canTake 12 = .ok (.getfield 19, 3) := by decide +kernel
theorem dX11_canTake_15 : decode cX11_canTake 15 = .ok (.getfield 110, 3) := by decide +kernel
theorem dX11_canTake_18 : decode cX11_canTake 18 = .ok (.if_icmp .gt 7, 3) := by decide +kernel
theorem dX11_canTake_21 : decode cX11_canTake 21 = .ok (.iconst 1, 1) := by decide +kernel
theorem dX11_canTake_22 : decode cX11_canTake 22 = .ok (.goto 4, 3) := by decide +kernel
theorem dX11_canTake_25 : decode cX11_canTake 25 = .ok (.iconst 0, 1) := by decide +kernel
theorem dX11_canTake_26 : decode cX11_canTake 26 = .ok (.ireturn, 1) := by decide +kernel
theorem dX11_isState_0 : decode cX11_isState 0 = .ok (.iload_n 1, 1) := by decide +kernel
theorem dX11_isState_1 : decode cX11_isState 1 = .ok (.ifCond .lt 18, 3) := by decide +kernel
theorem dX11_isState_4 : decode cX11_isState 4 = .ok (.iload_n 2, 1) := by decide +kernel
theorem dX11_isState_5 : decode cX11_isState 5 = .ok (.ifCond .lt 14, 3) := by decide +kernel
theorem dX11_isState_8 : decode cX11_isState 8 = .ok (.iload_n 3, 1) := by decide +kernel
theorem dX11_isState_9 : decode cX11_isState 9 = .ok (.invokestatic 198, 3) := by decide +kernel
theorem dX11_isState_12 : decode cX11_isState 12 = .ok (.ifCond .eq 7, 3) := by decide +kernel
theorem dX11_isState_15 : decode cX11_isState 15 = .ok (.iconst 1, 1) := by decide +kernel
theorem dX11_isState_16 : decode cX11_isState 16 = .ok (.goto 4, 3) := by decide +kernel
theorem dX11_isState_19 : decode cX11_isState 19 = .ok (.iconst 0, 1) := by decide +kernel
theorem dX11_isState_20 : decode cX11_isState 20 = .ok (.ireturn, 1) := by decide +kernel
theorem dX11_isTold_0 : decode cX11_isTold 0 = .ok (.iload_n 1, 1) := by decide +kernel
theorem dX11_isTold_1 : decode cX11_isTold 1 = .ok (.invokestatic 137, 3) := by decide +kernel
theorem dX11_isTold_4 : decode cX11_isTold 4 = .ok (.ifCond .eq 19, 3) := by decide +kernel
theorem dX11_isTold_7 : decode cX11_isTold 7 = .ok (.aload_n 0, 1) := by decide +kernel
theorem dX11_isTold_8 : decode cX11_isTold 8 = .ok (.getfield 53, 3) := by decide +kernel
theorem dX11_isTold_11 : decode cX11_isTold 11 = .ok (.iload_n 1, 1) := by decide +kernel
theorem dX11_isTold_12 : decode cX11_isTold 12 = .ok (.aaload, 1) := by decide +kernel
theorem dX11_isTold_13 : decode cX11_isTold 13 = .ok (.getfield 351, 3) := by decide +kernel
theorem dX11_isTold_16 : decode cX11_isTold 16 = .ok (.ifCond .le 7, 3) := by decide +kernel
theorem dX11_isTold_19 : decode cX11_isTold 19 = .ok (.iconst 1, 1) := by decide +kernel
theorem dX11_isTold_20 : decode cX11_isTold 20 = .ok (.goto 4, 3) := by decide +kernel
theorem dX11_isTold_23 : decode cX11_isTold 23 = .ok (.iconst 0, 1) := by decide +kernel
theorem dX11_isTold_24 : decode cX11_isTold 24 = .ok (.ireturn, 1) := by decide +kernel
theorem dX11_canPlayBy_0 : decode cX11_canPlayBy 0 = .ok (.iload_n 1, 1) := by decide +kernel
theorem dX11_canPlayBy_1 : decode cX11_canPlayBy 1 = .ok (.iconst (-1), 1) := by decide +kernel
theorem dX11_canPlayBy_2 : decode cX11_canPlayBy 2 = .ok (.if_icmp .eq 11, 3) := by decide +kernel
theorem dX11_canPlayBy_5 : decode cX11_canPlayBy 5 = .ok (.aload_n 0, 1) := by decide +kernel
theorem dX11_canPlayBy_6 : decode cX11_canPlayBy 6 = .ok (.iload_n 1, 1) := by decide +kernel
theorem dX11_canPlayBy_7 : decode cX11_canPlayBy 7 = .ok (.invokevirtual 208, 3) := by decide +kernel
theorem dX11_canPlayBy_10 : decode cX11_canPlayBy 10 = .ok (.ifCond .eq 7, 3) := by decide +kernel
theorem dX11_canPlayBy_13 : decode cX11_canPlayBy 13 = .ok (.iconst 1, 1) := by decide +kernel
theorem dX11_canPlayBy_14 : decode cX11_canPlayBy 14 = .ok (.goto 4, 3) := by decide +kernel
theorem dX11_canPlayBy_17 : decode cX11_canPlayBy 17 = .ok (.iconst 0, 1) := by decide +kernel
theorem dX11_canPlayBy_18 : decode cX11_canPlayBy 18 = .ok (.ireturn, 1) := by decide +kernel
theorem dX11_isRule_0 : decode cX11_isRule 0 = .ok (.iload_n 0, 1) := by decide +kernel
theorem dX11_isRule_1 : decode cX11_isRule 1 = .ok (.ifCond .lt 12, 3) := by decide +kernel
theorem dX11_isRule_4 : decode cX11_isRule 4 = .ok (.iload_n 0, 1) := by decide +kernel
theorem dX11_isRule_5 : decode cX11_isRule 5 = .ok (.iconst 4, 1) := by decide +kernel
theorem dX11_isRule_6 : decode cX11_isRule 6 = .ok (.if_icmp .ge 7, 3) := by decide +kernel
theorem dX11_isRule_9 : decode cX11_isRule 9 = .ok (.iconst 1, 1) := by decide +kernel
theorem dX11_isRule_10 : decode cX11_isRule 10 = .ok (.goto 4, 3) := by decide +kernel
theorem dX11_isRule_13 : decode cX11_isRule 13 = .ok (.iconst 0, 1) := by decide +kernel
theorem dX11_isRule_14 : decode cX11_isRule 14 = .ok (.ireturn, 1) := by decide +kernel
theorem dX11_isFar_0 : decode cX11_isFar 0 = .ok (.iload_n 0, 1) := by decide +kernel
theorem dX11_isFar_1 : decode cX11_isFar 1 = .ok (.bipush 6, 2) := by decide +kernel
theorem dX11_isFar_3 : decode cX11_isFar 3 = .ok (.if_icmp .lt 13, 3) := by decide +kernel
theorem dX11_isFar_6 : decode cX11_isFar 6 = .ok (.iload_n 0, 1) := by decide +kernel
theorem dX11_isFar_7 : decode cX11_isFar 7 = .ok (.bipush 10, 2) := by decide +kernel
theorem dX11_isFar_9 : decode cX11_isFar 9 = .ok (.if_icmp .gt 7, 3) := by decide +kernel
theorem dX11_isFar_12 : decode cX11_isFar 12 = .ok (.iconst 1, 1) := by decide +kernel
theorem dX11_isFar_13 : decode cX11_isFar 13 = .ok (.goto 4, 3) := by decide +kernel
theorem dX11_isFar_16 : decode cX11_isFar 16 = .ok (.iconst 0, 1) := by decide +kernel
theorem dX11_isFar_17 : decode cX11_isFar 17 = .ok (.ireturn, 1) := by decide +kernel
theorem dX11_isSide_0 : decode cX11_isSide 0 = .ok (.iload_n 0, 1) := by decide +kernel
theorem dX11_isSide_1 : decode cX11_isSide 1 = .ok (.ifCond .eq 8, 3) := by decide +kernel
theorem dX11_isSide_4 : decode cX11_isSide 4 = .ok (.iload_n 0, 1) := by decide +kernel
theorem dX11_isSide_5 : decode cX11_isSide 5 = .ok (.iconst 1, 1) := by decide +kernel
theorem dX11_isSide_6 : decode cX11_isSide 6 = .ok (.if_icmp .ne 7, 3) := by decide +kernel
theorem dX11_isSide_9 : decode cX11_isSide 9 = .ok (.iconst 1, 1) := by decide +kernel
theorem dX11_isSide_10 : decode cX11_isSide 10 = .ok (.goto 4, 3) := by decide +kernel
theorem dX11_isSide_13 : decode cX11_isSide 13 = .ok (.iconst 0, 1) := by decide +kernel
theorem dX11_isSide_14 : decode cX11_isSide 14 = .ok (.ireturn, 1) := by decide +kernel
theorem dX11_isValueOrThrow_0 : decode cX11_isValueOrThrow 0 = .ok (.iload_n 0, 1) := by decide +kernel
theorem dX11_isValueOrThrow_1 : decode cX11_isValueOrThrow 1 = .ok (.ifCond .eq 8, 3) := by decide +kernel
theorem dX11_isValueOrThrow_4 : decode cX11_isValueOrThrow 4 = .ok (.iload_n 0, 1) := by decide +kernel
theorem dX11_isValueOrThrow_5 : decode cX11_isValueOrThrow 5 = .ok (.iconst 1, 1) := by decide +kernel
theorem dX11_isValueOrThrow_6 : decode cX11_isValueOrThrow 6 = .ok (.if_icmp .ne 7, 3) := by decide +kernel
theorem dX11_isValueOrThrow_9 : decode cX11_isValueOrThrow 9 = .ok (.iconst 1, 1) := by decide +kernel
theorem dX11_isValueOrThrow_10 : decode cX11_isValueOrThrow 10 = .ok (.goto 4, 3) := by decide +kernel
theorem dX11_isValueOrThrow_13 : decode cX11_isValueOrThrow 13 = .ok (.iconst 0, 1) := by decide +kernel
theorem dX11_isValueOrThrow_14 : decode cX11_isValueOrThrow 14 = .ok (.ireturn, 1) := by decide +kernel
theorem dX11_isCount_0 : decode cX11_isCount 0 = .ok (.iload_n 0, 1) := by decide +kernel
theorem dX11_isCount_1 : decode cX11_isCount 1 = .ok (.bipush (-3), 2) := by decide +kernel
theorem dX11_isCount_3 : decode cX11_isCount 3 = .ok (.if_icmp .lt 12, 3) := by decide +kernel
theorem dX11_isCount_6 : decode cX11_isCount 6 = .ok (.iload_n 0, 1) := by decide +kernel
theorem dX11_isCount_7 : decode cX11_isCount 7 = .ok (.iconst 3, 1) := by decide +kernel
theorem dX11_isCount_8 : decode cX11_isCount 8 = .ok (.if_icmp .gt 7, 3) := by decide +kernel
theorem dX11_isCount_11 : decode cX11_isCount 11 = .ok (.iconst 1, 1) := by decide +kernel
theorem dX11_isCount_12 : decode cX11_isCount 12 = .ok (.goto 4, 3) := by decide +kernel
theorem dX11_isCount_15 : decode cX11_isCount 15 = .ok (.iconst 0, 1) := by decide +kernel
theorem dX11_isCount_16 : decode cX11_isCount 16 = .ok (.ireturn, 1) := by decide +kernel
theorem dX11_isScore_0 : decode cX11_isScore 0 = .ok (.iload_n 0, 1) := by decide +kernel
theorem dX11_isScore_1 : decode cX11_isScore 1 = .ok (.ifCond .lt 13, 3) := by decide +kernel
theorem dX11_isScore_4 : decode cX11_isScore 4 = .ok (.iload_n 0, 1) := by decide +kernel
theorem dX11_isScore_5 : decode cX11_isScore 5 = .ok (.bipush 13, 2) := by decide +kernel
theorem dX11_isScore_7 : decode cX11_isScore 7 = .ok (.if_icmp .gt 7, 3) := by decide +kernel
theorem dX11_isScore_10 : decode cX11_isScore 10 = .ok (.iconst 1, 1) := by decide +kernel
theorem dX11_isScore_11 : decode cX11_isScore 11 = .ok (.goto 4, 3) := by decide +kernel
theorem dX11_isScore_14 : decode cX11_isScore 14 = .ok (.iconst 0, 1) := by decide +kernel
theorem dX11_isScore_15 : decode cX11_isScore 15 = .ok (.ireturn, 1) := by decide +kernel
theorem dX11_isGuess_0 : decode cX11_isGuess 0 = .ok (.iload_n 0, 1) := by decide +kernel
theorem dX11_isGuess_1 : decode cX11_isGuess 1 = .ok (.ifCond .lt 22, 3) := by decide +kernel
theorem dX11_isGuess_4 : decode cX11_isGuess 4 = .ok (.iload_n 0, 1) := by decide +kernel
theorem dX11_isGuess_5 : decode cX11_isGuess 5 = .ok (.bipush 10, 2) := by decide +kernel
theorem dX11_isGuess_7 : decode cX11_isGuess 7 = .ok (.if_icmp .gt 16, 3) := by decide +kernel
theorem dX11_isGuess_10 : decode cX11_isGuess 10 = .ok (.iload_n 1, 1) := by decide +kernel
theorem dX11_isGuess_11 : decode cX11_isGuess 11 = .ok (.ifCond .lt 12, 3) := by decide +kernel
theorem dX11_isGuess_14 : decode cX11_isGuess 14 = .ok (.iload_n 1, 1) := by decide +kernel
theorem dX11_isGuess_15 : decode cX11_isGuess 15 = .ok (.iconst 3, 1) := by decide +kernel
theorem dX11_isGuess_16 : decode cX11_isGuess 16 = .ok (.if_icmp .gt 7, 3) := by decide +kernel
theorem dX11_isGuess_19 : decode cX11_isGuess 19 = .ok (.iconst 1, 1) := by decide +kernel
theorem dX11_isGuess_20 : decode cX11_isGuess 20 = .ok (.goto 4, 3) := by decide +kernel
theorem dX11_isGuess_23 : decode cX11_isGuess 23 = .ok (.iconst 0, 1) := by decide +kernel
theorem dX11_isGuess_24 : decode cX11_isGuess 24 = .ok (.ireturn, 1) := by decide +kernel
theorem dX11_isSpot_0 : decode cX11_isSpot 0 = .ok (.iload_n 0, 1) := by decide +kernel
theorem dX11_isSpot_1 : decode cX11_isSpot 1 = .ok (.ifCond .lt 23, 3) := by decide +kernel
theorem dX11_isSpot_4 : decode cX11_isSpot 4 = .ok (.iload_n 0, 1) := by decide +kernel
theorem dX11_isSpot_5 : decode cX11_isSpot 5 = .ok (.bipush 8, 2) := by decide +kernel
theorem dX11_isSpot_7 : decode cX11_isSpot 7 = .ok (.if_icmp .ge 17, 3) := by decide +kernel
theorem dX11_isSpot_10 : decode cX11_isSpot 10 = .ok (.iload_n 1, 1) := by decide +kernel
theorem dX11_isSpot_11 : decode cX11_isSpot 11 = .ok (.ifCond .lt 13, 3) := by decide +kernel
theorem dX11_isSpot_14 : decode cX11_isSpot 14 = .ok (.iload_n 1, 1) := by decide +kernel
theorem dX11_isSpot_15 : decode cX11_isSpot 15 = .ok (.bipush 8, 2) := by decide +kernel
theorem dX11_isSpot_17 : decode cX11_isSpot 17 = .ok (.if_icmp .ge 7, 3) := by decide +kernel
theorem dX11_isSpot_20 : decode cX11_isSpot 20 = .ok (.iconst 1, 1) := by decide +kernel
theorem dX11_isSpot_21 : decode cX11_isSpot 21 = .ok (.goto 4, 3) := by decide +kernel
theorem dX11_isSpot_24 : decode cX11_isSpot 24 = .ok (.iconst 0, 1) := by decide +kernel
theorem dX11_isSpot_25 : decode cX11_isSpot 25 = .ok (.ireturn, 1) := by decide +kernel
theorem dX11_isPlace_0 : decode cX11_isPlace 0 = .ok (.iload_n 0, 1) := by decide +kernel
theorem dX11_isPlace_1 : decode cX11_isPlace 1 = .ok (.ifCond .lt 23, 3) := by decide +kernel
theorem dX11_isPlace_4 : decode cX11_isPlace 4 = .ok (.iload_n 0, 1) := by decide +kernel
theorem dX11_isPlace_5 : decode cX11_isPlace 5 = .ok (.bipush 99, 2) := by decide +kernel
theorem dX11_isPlace_7 : decode cX11_isPlace 7 = .ok (.if_icmp .gt 17, 3) := by decide +kernel
theorem dX11_isPlace_10 : decode cX11_isPlace 10 = .ok (.iload_n 1, 1) := by decide +kernel
theorem dX11_isPlace_11 : decode cX11_isPlace 11 = .ok (.ifCond .lt 13, 3) := by decide +kernel
theorem dX11_isPlace_14 : decode cX11_isPlace 14 = .ok (.iload_n 1, 1) := by decide +kernel
theorem dX11_isPlace_15 : decode cX11_isPlace 15 = .ok (.bipush 99, 2) := by decide +kernel
theorem dX11_isPlace_17 : decode cX11_isPlace 17 = .ok (.if_icmp .gt 7, 3) := by decide +kernel
theorem dX11_isPlace_20 : decode cX11_isPlace 20 = .ok (.iconst 1, 1) := by decide +kernel
theorem dX11_isPlace_21 : decode cX11_isPlace 21 = .ok (.goto 4, 3) := by decide +kernel
theorem dX11_isPlace_24 : decode cX11_isPlace 24 = .ok (.iconst 0, 1) := by decide +kernel
theorem dX11_isPlace_25 : decode cX11_isPlace 25 = .ok (.ireturn, 1) := by decide +kernel
theorem dX11_worstFor_0 : decode cX11_worstFor 0 = .ok (.iload_n 2, 1) := by decide +kernel
theorem dX11_worstFor_1 : decode cX11_worstFor 1 = .ok (.ifCond .eq 9, 3) := by decide +kernel
theorem dX11_worstFor_4 : decode cX11_worstFor 4 = .ok (.ldc2_w 361, 3) := by decide +kernel
theorem dX11_worstFor_7 : decode cX11_worstFor 7 = .ok (.goto 6, 3) := by decide +kernel
theorem dX11_worstFor_10 : decode cX11_worstFor 10 = .ok (.ldc2_w 363, 3) := by decide +kernel
theorem dX11_worstFor_13 : decode cX11_worstFor 13 = .ok (.lstore_n 3, 1) := by decide +kernel
theorem dX11_worstFor_14 : decode cX11_worstFor 14 = .ok (.iconst 0, 1) := by decide +kernel
theorem dX11_worstFor_15 : decode cX11_worstFor 15 = .ok (.istore 5, 2) := by decide +kernel
theorem dX11_worstFor_17 : decode cX11_worstFor 17 = .ok (.iload 5, 2) := by decide +kernel
theorem dX11_worstFor_19 : decode cX11_worstFor 19 = .ok (.iconst 4, 1) := by decide +kernel
theorem dX11_worstFor_20 : decode cX11_worstFor 20 = .ok (.if_icmp .ge 71, 3) := by decide +kernel
theorem dX11_worstFor_23 : decode cX11_worstFor 23 = .ok (.aload_n 0, 1) := by decide +kernel
theorem dX11_worstFor_24 : decode cX11_worstFor 24 = .ok (.iload 5, 2) := by decide +kernel
theorem dX11_worstFor_26 : decode cX11_worstFor 26 = .ok (.invokevirtual 208, 3) := by decide +kernel
theorem dX11_worstFor_29 : decode cX11_worstFor 29 = .ok (.ifCond .eq 56, 3) := by decide +kernel
theorem dX11_worstFor_32 : decode cX11_worstFor 32 = .ok (.aload_n 0, 1) := by decide +kernel
theorem dX11_worstFor_33 : decode cX11_worstFor 33 = .ok (.getfield 33, 3) := by decide +kernel
theorem dX11_worstFor_36 : decode cX11_worstFor 36 = .ok (.aload_n 0, 1) := by decide +kernel
theorem dX11_worstFor_37 : decode cX11_worstFor 37 = .ok (.getfield 7, 3) := by decide +kernel
theorem dX11_worstFor_40 : decode cX11_worstFor 40 = .ok (.iload_n 2, 1) := by decide +kernel
theorem dX11_worstFor_41 : decode cX11_worstFor 41 = .ok (.ifCond .eq 7, 3) := by decide +kernel
theorem dX11_worstFor_44 : decode cX11_worstFor 44 = .ok (.iload_n 1, 1) := by decide +kernel
theorem dX11_worstFor_45 : decode cX11_worstFor 45 = .ok (.goto 5, 3) := by decide +kernel
theorem dX11_worstFor_48 : decode cX11_worstFor 48 = .ok (.iload 5, 2) := by decide +kernel
theorem dX11_worstFor_50 : decode cX11_worstFor 50 = .ok (.iload_n 2, 1) := by decide +kernel
theorem dX11_worstFor_51 : decode cX11_worstFor 51 = .ok (.ifCond .eq 8, 3) := by decide +kernel
theorem dX11_worstFor_54 : decode cX11_worstFor 54 = .ok (.iload 5, 2) := by decide +kernel
theorem dX11_worstFor_56 : decode cX11_worstFor 56 = .ok (.goto 4, 3) := by decide +kernel
theorem dX11_worstFor_59 : decode cX11_worstFor 59 = .ok (.iload_n 1, 1) := by decide +kernel
theorem dX11_worstFor_60 : decode cX11_worstFor 60 = .ok (.invokevirtual 365, 3) := by decide +kernel
theorem dX11_worstFor_63 : decode cX11_worstFor 63 = .ok (.lstore 6, 2) := by decide +kernel
theorem dX11_worstFor_65 : decode cX11_worstFor 65 = .ok (.iload_n 2, 1) := by decide +kernel
theorem dX11_worstFor_66 : decode cX11_worstFor 66 = .ok (.ifCond .eq 12, 3) := by decide +kernel
theorem dX11_worstFor_69 : decode cX11_worstFor 69 = .ok (.lload_n 3, 1) := by decide +kernel
theorem dX11_worstFor_70 : decode cX11_worstFor 70 = .ok (.lload 6, 2) := by decide +kernel
theorem dX11_worstFor_72 : decode cX11_worstFor 72 = .ok (.invokestatic 369, 3) := by decide +kernel
theorem dX11_worstFor_75 : decode cX11_worstFor 75 = .ok (.goto 9, 3) := by decide +kernel
theorem dX11_worstFor_78 : decode cX11_worstFor 78 = .ok (.lload_n 3, 1) := by decide +kernel
theorem dX11_worstFor_79 : decode cX11_worstFor 79 = .ok (.lload 6, 2) := by decide +kernel
theorem dX11_worstFor_81 : decode cX11_worstFor 81 = .ok (.invokestatic 375, 3) := by decide +kernel
theorem dX11_worstFor_84 : decode cX11_worstFor 84 = .ok (.lstore_n 3, 1) := by decide +kernel
theorem dX11_worstFor_85 : decode cX11_worstFor 85 = .ok (.iinc 5 1, 3) := by decide +kernel
theorem dX11_worstFor_88 : decode cX11_worstFor 88 = .ok (.goto (-71), 3) := by decide +kernel
theorem dX11_worstFor_91 : decode cX11_worstFor 91 = .ok (.lload_n 3, 1) := by decide +kernel
theorem dX11_worstFor_92 : decode cX11_worstFor 92 = .ok (.lreturn, 1) := by decide +kernel
theorem dX11_drawThrow_0 : decode cX11_drawThrow 0 = .ok (.aload_n 0, 1) := by decide +kernel
theorem dX11_drawThrow_1 : decode cX11_drawThrow 1 = .ok (.getfield 64, 3) := by decide +kernel
theorem dX11_drawThrow_4 : decode cX11_drawThrow 4 = .ok (.invokevirtual 240, 3) := by decide +kernel
theorem dX11_drawThrow_7 : decode cX11_drawThrow 7 = .ok (.istore_n 1, 1) := by decide +kernel
theorem dX11_drawThrow_8 : decode cX11_drawThrow 8 = .ok (.aload_n 0, 1) := by decide +kernel
theorem dX11_drawThrow_9 : decode cX11_drawThrow 9 = .ok (.getfield 64, 3) := by decide +kernel
theorem dX11_drawThrow_12 : decode cX11_drawThrow 12 = .ok (.invokevirtual 244, 3) := by decide +kernel
theorem dX11_drawThrow_15 : decode cX11_drawThrow 15 = .ok (.istore_n 2, 1) := by decide +kernel
theorem dX11_drawThrow_16 : decode cX11_drawThrow 16 = .ok (.aload_n 0, 1) := by decide +kernel
theorem dX11_drawThrow_17 : decode cX11_drawThrow 17 = .ok (.getfield 64, 3) := by decide +kernel
theorem dX11_drawThrow_20 : decode cX11_drawThrow 20 = .ok (.invokevirtual 378, 3) := by decide +kernel
theorem dX11_drawThrow_23 : decode cX11_drawThrow 23 = .ok (.istore_n 3, 1) := by decide +kernel
theorem dX11_drawThrow_24 : decode cX11_drawThrow 24 = .ok (.aload_n 0, 1) := by decide +kernel
theorem dX11_drawThrow_25 : decode cX11_drawThrow 25 = .ok (.getfield 41, 3) := by decide +kernel
theorem dX11_drawThrow_28 : decode cX11_drawThrow 28 = .ok (.iload_n 1, 1) := by decide +kernel
theorem dX11_drawThrow_29 : decode cX11_drawThrow 29 = .ok (.iload_n 2, 1) := by decide +kernel
theorem dX11_drawThrow_30 : decode cX11_drawThrow 30 = .ok (.iload_n 3, 1) := by decide +kernel
theorem dX11_drawThrow_31 : decode cX11_drawThrow 31 = .ok (.invokevirtual 156, 3) := by decide +kernel
theorem dX11_drawThrow_34 : decode cX11_drawThrow 34 = .ok (.istore 4, 2) := by decide +kernel
theorem dX11_drawThrow_36 : decode cX11_drawThrow 36 = .ok (.aload_n 0, 1) := by decide +kernel
theorem dX11_drawThrow_37 : decode cX11_drawThrow 37 = .ok (.getfield 33, 3) := by decide +kernel
theorem dX11_drawThrow_40 : decode cX11_drawThrow 40 = .ok (.iload_n 1, 1) := by decide +kernel
theorem dX11_drawThrow_41 : decode cX11_drawThrow 41 = .ok (.iload_n 2, 1) := by decide +kernel
theorem dX11_drawThrow_42 : decode cX11_drawThrow 42 = .ok (.iload_n 3, 1) := by decide +kernel
theorem dX11_drawThrow_43 : decode cX11_drawThrow 43 = .ok (.invokevirtual 381, 3) := by decide +kernel
theorem dX11_drawThrow_46 : decode cX11_drawThrow 46 = .ok (.istore 5, 2) := by decide +kernel
theorem dX11_drawThrow_48 : decode cX11_drawThrow 48 = .ok (.aload_n 0, 1) := by decide +kernel
theorem dX11_drawThrow_49 : decode cX11_drawThrow 49 = .ok (.sipush 25173, 3) := by decide +kernel
theorem dX11_drawThrow_52 : decode cX11_drawThrow 52 = .ok (.aload_n 0, 1) := by decide +kernel
theorem dX11_drawThrow_53 : decode cX11_drawThrow 53 = .ok (.getfield 13, 3) := by decide +kernel
theorem dX11_drawThrow_56 : decode cX11_drawThrow 56 = .ok (.imul, 1) := by decide +kernel
theorem dX11_drawThrow_57 : decode cX11_drawThrow 57 = .ok (.sipush 13849, 3) := by decide +kernel
theorem dX11_drawThrow_60 : decode cX11_drawThrow 60 = .ok (.iadd, 1) := by decide +kernel
theorem dX11_drawThrow_61 : decode cX11_drawThrow 61 = .ok (.ldc_w 384, 3) := by decide +kernel
theorem dX11_drawThrow_64 : decode cX11_drawThrow 64 = .ok (.irem, 1) := by decide +kernel
theorem dX11_drawThrow_65 : decode cX11_drawThrow 65 = .ok (.putfield 13, 3) := by decide +kernel
theorem dX11_drawThrow_68 : decode cX11_drawThrow 68 = .ok (.aload_n 0, 1) := by decide +kernel
theorem dX11_drawThrow_69 : decode cX11_drawThrow 69 = .ok (.getfield 33, 3) := by decide +kernel
theorem dX11_drawThrow_72 : decode cX11_drawThrow 72 = .ok (.iload_n 1, 1) := by decide +kernel
theorem dX11_drawThrow_73 : decode cX11_drawThrow 73 = .ok (.iload_n 2, 1) := by decide +kernel
theorem dX11_drawThrow_74 : decode cX11_drawThrow 74 = .ok (.iload_n 3, 1) := by decide +kernel
theorem dX11_drawThrow_75 : decode cX11_drawThrow 75 = .ok (.iload 5, 2) := by decide +kernel
theorem dX11_drawThrow_77 : decode cX11_drawThrow 77 = .ok (.aload_n 0, 1) := by decide +kernel
theorem dX11_drawThrow_78 : decode cX11_drawThrow 78 = .ok (.getfield 13, 3) := by decide +kernel
theorem dX11_drawThrow_81 : decode cX11_drawThrow 81 = .ok (.bipush 100, 2) := by decide +kernel
theorem dX11_drawThrow_83 : decode cX11_drawThrow 83 = .ok (.irem, 1) := by decide +kernel
theorem dX11_drawThrow_84 : decode cX11_drawThrow 84 = .ok (.invokevirtual 385, 3) := by decide +kernel
theorem dX11_drawThrow_87 : decode cX11_drawThrow 87 = .ok (.istore 6, 2) := by decide +kernel
theorem dX11_drawThrow_89 : decode cX11_drawThrow 89 = .ok (.aload_n 0, 1) := by decide +kernel
theorem dX11_drawThrow_90 : decode cX11_drawThrow 90 = .ok (.getfield 41, 3) := by decide +kernel
theorem dX11_drawThrow_93 : decode cX11_drawThrow 93 = .ok (.iload_n 1, 1) := by decide +kernel
theorem dX11_drawThrow_94 : decode cX11_drawThrow 94 = .ok (.iload_n 2, 1) := by decide +kernel
theorem dX11_drawThrow_95 : decode cX11_drawThrow 95 = .ok (.iload 4, 2) := by decide +kernel
theorem dX11_drawThrow_97 : decode cX11_drawThrow 97 = .ok (.iload 6, 2) := by decide +kernel
theorem dX11_drawThrow_99 : decode cX11_drawThrow 99 = .ok (.invokevirtual 389, 3) := by decide +kernel
theorem dX11_drawThrow_102 : decode cX11_drawThrow 102 = .ok (.istore 7, 2) := by decide +kernel
theorem dX11_drawThrow_104 : decode cX11_drawThrow 104 = .ok (.aload_n 0, 1) := by decide +kernel
theorem dX11_drawThrow_105 : decode cX11_drawThrow 105 = .ok (.getfield 41, 3) := by decide +kernel
theorem dX11_drawThrow_108 : decode cX11_drawThrow 108 = .ok (.iload_n 1, 1) := by decide +kernel
theorem dX11_drawThrow_109 : decode cX11_drawThrow 109 = .ok (.iload_n 2, 1) := by decide +kernel
theorem dX11_drawThrow_110 : decode cX11_drawThrow 110 = .ok (.iload 4, 2) := by decide +kernel
theorem dX11_drawThrow_112 : decode cX11_drawThrow 112 = .ok (.iload 6, 2) := by decide +kernel
theorem dX11_drawThrow_114 : decode cX11_drawThrow 114 = .ok (.invokevirtual 392, 3) := by decide +kernel
theorem dX11_drawThrow_117 : decode cX11_drawThrow 117 = .ok (.istore 8, 2) := by decide +kernel
theorem dX11_drawThrow_119 : decode cX11_drawThrow 119 = .ok (.aload_n 0, 1) := by decide +kernel
theorem dX11_drawThrow_120 : decode cX11_drawThrow 120 = .ok (.getfield 64, 3) := by decide +kernel
theorem dX11_drawThrow_123 : decode cX11_drawThrow 123 = .ok (.iload 5, 2) := by decide +kernel
theorem dX11_drawThrow_125 : decode cX11_drawThrow 125 = .ok (.iload 4, 2) := by decide +kernel
theorem dX11_drawThrow_127 : decode cX11_drawThrow 127 = .ok (.iload 4, 2) := by decide +kernel
theorem dX11_drawThrow_129 : decode cX11_drawThrow 129 = .ok (.ifCond .ne 8, 3) := by decide +kernel
theorem dX11_drawThrow_132 : decode cX11_drawThrow 132 = .ok (.iload 7, 2) := by decide +kernel
theorem dX11_drawThrow_134 : decode cX11_drawThrow 134 = .ok (.goto 5, 3) := by decide +kernel
theorem dX11_drawThrow_137 : decode cX11_drawThrow 137 = .ok (.iload 8, 2) := by decide +kernel
theorem dX11_drawThrow_139 : decode cX11_drawThrow 139 = .ok (.iload 4, 2) := by decide +kernel
theorem dX11_drawThrow_141 : decode cX11_drawThrow 141 = .ok (.ifCond .ne 8, 3) := by decide +kernel
theorem dX11_drawThrow_144 : decode cX11_drawThrow 144 = .ok (.iload 8, 2) := by decide +kernel
theorem dX11_drawThrow_146 : decode cX11_drawThrow 146 = .ok (.goto 5, 3) := by decide +kernel
theorem dX11_drawThrow_149 : decode cX11_drawThrow 149 = .ok (.iload 7, 2) := by decide +kernel
theorem dX11_drawThrow_151 : decode cX11_drawThrow 151 = .ok (.invokevirtual 395, 3) := by decide +kernel
theorem dX11_drawThrow_154 : decode cX11_drawThrow 154 = .ok (.return_, 1) := by decide +kernel
theorem dX11_lossIn_0 : decode cX11_lossIn 0 = .ok (.aload_n 0, 1) := by decide +kernel
theorem dX11_lossIn_1 : decode cX11_lossIn 1 = .ok (.getfield 33, 3) := by decide +kernel
theorem dX11_lossIn_4 : decode cX11_lossIn 4 = .ok (.aload_n 0, 1) := by decide +kernel
theorem dX11_lossIn_5 : decode cX11_lossIn 5 = .ok (.getfield 64, 3) := by decide +kernel
theorem dX11_lossIn_8 : decode cX11_lossIn 8 = .ok (.iload_n 1, 1) := by decide +kernel
theorem dX11_lossIn_9 : decode cX11_lossIn 9 = .ok (.invokevirtual 397, 3) := by decide +kernel
theorem dX11_lossIn_12 : decode cX11_lossIn 12 = .ok (.aload_n 0, 1) := by decide +kernel
theorem dX11_lossIn_13 : decode cX11_lossIn 13 = .ok (.getfield 64, 3) := by decide +kernel
theorem dX11_lossIn_16 : decode cX11_lossIn 16 = .ok (.iload_n 1, 1) := by decide +kernel
theorem dX11_lossIn_17 : decode cX11_lossIn 17 = .ok (.invokevirtual 400, 3) := by decide +kernel
theorem dX11_lossIn_20 : decode cX11_lossIn 20 = .ok (.aload_n 0, 1) := by decide +kernel
theorem dX11_lossIn_21 : decode cX11_lossIn 21 = .ok (.getfield 64, 3) := by decide +kernel
theorem dX11_lossIn_24 : decode cX11_lossIn 24 = .ok (.iload_n 1, 1) := by decide +kernel
theorem dX11_lossIn_25 : decode cX11_lossIn 25 = .ok (.invokevirtual 403, 3) := by decide +kernel
theorem dX11_lossIn_28 : decode cX11_lossIn 28 = .ok (.aload_n 0, 1) := by decide +kernel
theorem dX11_lossIn_29 : decode cX11_lossIn 29 = .ok (.getfield 64, 3) := by decide +kernel
theorem dX11_lossIn_32 : decode cX11_lossIn 32 = .ok (.iload_n 1, 1) := by decide +kernel
theorem dX11_lossIn_33 : decode cX11_lossIn 33 = .ok (.invokevirtual 406, 3) := by decide +kernel
theorem dX11_lossIn_36 : decode cX11_lossIn 36 = .ok (.invokevirtual 409, 3) := by decide +kernel
theorem dX11_lossIn_39 : decode cX11_lossIn 39 = .ok (.lstore_n 2, 1) := by decide +kernel
theorem dX11_lossIn_40 : decode cX11_lossIn 40 = .ok (.iconst 0, 1) := by decide +kernel
theorem dX11_lossIn_41 : decode cX11_lossIn 41 = .ok (.istore 4, 2) := by decide +kernel
theorem dX11_lossIn_43 : decode cX11_lossIn 43 = .ok (.iload 4, 2) := by decide +kernel
theorem dX11_lossIn_45 : decode cX11_lossIn 45 = .ok (.iload_n 1, 1) := by decide +kernel
theorem dX11_lossIn_46 : decode cX11_lossIn 46 = .ok (.if_icmp .ge 15, 3) := by decide +kernel
theorem dX11_lossIn_49 : decode cX11_lossIn 49 = .ok (.lload_n 2, 1) := by decide +kernel
theorem dX11_lossIn_50 : decode cX11_lossIn 50 = .ok (.ldc2_w 412, 3) := by decide +kernel
theorem dX11_lossIn_53 : decode cX11_lossIn 53 = .ok (.lmul, 1) := by decide +kernel
theorem dX11_lossIn_54 : decode cX11_lossIn 54 = .ok (.lstore_n 2, 1) := by decide +kernel
theorem dX11_lossIn_55 : decode cX11_lossIn 55 = .ok (.iinc 4 1, 3) := by decide +kernel
theorem dX11_lossIn_58 : decode cX11_lossIn 58 = .ok (.goto (-15), 3) := by decide +kernel
theorem dX11_lossIn_61 : decode cX11_lossIn 61 = .ok (.lload_n 2, 1) := by decide +kernel
theorem dX11_lossIn_62 : decode cX11_lossIn 62 = .ok (.lreturn, 1) := by decide +kernel
theorem dX11_at_0 : decode cX11_at 0 = .ok (.iload_n 1, 1) := by decide +kernel
theorem dX11_at_1 : decode cX11_at 1 = .ok (.ifCond .lt 15, 3) := by decide +kernel
theorem dX11_at_4 : decode cX11_at 4 = .ok (.iload_n 1, 1) := by decide +kernel
theorem dX11_at_5 : decode cX11_at 5 = .ok (.aload_n 0, 1) := by decide +kernel
theorem dX11_at_6 : decode cX11_at 6 = .ok (.arraylength, 1) := by decide +kernel
theorem dX11_at_7 : decode cX11_at 7 = .ok (.if_icmp .ge 9, 3) := by decide +kernel
theorem dX11_at_10 : decode cX11_at 10 = .ok (.aload_n 0, 1) := by decide +kernel
theorem dX11_at_11 : decode cX11_at 11 = .ok (.iload_n 1, 1) := by decide +kernel
theorem dX11_at_12 : decode cX11_at 12 = .ok (.iaload, 1) := by decide +kernel
theorem dX11_at_13 : decode cX11_at 13 = .ok (.goto 4, 3) := by decide +kernel
theorem dX11_at_16 : decode cX11_at 16 = .ok (.iconst 0, 1) := by decide +kernel
theorem dX11_at_17 : decode cX11_at 17 = .ok (.ireturn, 1) := by decide +kernel
theorem dX12_init_0 : decode cX12_init 0 = .ok (.aload_n 0, 1) := by decide +kernel
theorem dX12_init_1 : decode cX12_init 1 = .ok (.invokespecial 1, 3) := by decide +kernel
theorem dX12_init_4 : decode cX12_init 4 = .ok (.aload_n 0, 1) := by decide +kernel
theorem dX12_init_5 : decode cX12_init 5 = .ok (.bipush 56, 2) := by decide +kernel
theorem dX12_init_7 : decode cX12_init 7 = .ok (.newarray .int, 2) := by decide +kernel
theorem dX12_init_9 : decode cX12_init 9 = .ok (.putfield 7, 3) := by decide +kernel
theorem dX12_init_12 : decode cX12_init 12 = .ok (.aload_n 0, 1) := by decide +kernel
theorem dX12_init_13 : decode cX12_init 13 = .ok (.sipush 280, 3) := by decide +kernel
theorem dX12_init_16 : decode cX12_init 16 = .ok (.newarray .int, 2) := by decide +kernel
theorem dX12_init_18 : decode cX12_init 18 = .ok (.putfield 13, 3) := by decide +kernel
theorem dX12_init_21 : decode cX12_init 21 = .ok (.aload_n 0, 1) := by decide +kernel
theorem dX12_init_22 : decode cX12_init 22 = .ok (.bipush 56, 2) := by decide +kernel
theorem dX12_init_24 : decode cX12_init 24 = .ok (.newarray .int, 2) := by decide +kernel
theorem dX12_init_26 : decode cX12_init 26 = .ok (.putfield 16, 3) := by decide +kernel
theorem dX12_init_29 : decode cX12_init 29 = .ok (.aload_n 0, 1) := by decide +kernel
theorem dX12_init_30 : decode cX12_init 30 = .ok (.sipush 260, 3) := by decide +kernel
theorem dX12_init_33 : decode cX12_init 33 = .ok (.newarray .byte, 2) := by decide +kernel
theorem dX12_init_35 : decode cX12_init 35 = .ok (.putfield 19, 3) := by decide +kernel
theorem dX12_init_38 : decode cX12_init 38 = .ok (.aload_n 0, 1) := by decide +kernel
theorem dX12_init_39 : decode cX12_init 39 = .ok (.sipush 260, 3) := by decide +kernel
theorem dX12_init_42 : decode cX12_init 42 = .ok (.newarray .int, 2) := by decide +kernel
theorem dX12_init_44 : decode cX12_init 44 = .ok (.putfield 23, 3) := by decide +kernel
theorem dX12_init_47 : decode cX12_init 47 = .ok (.aload_n 0, 1) := by decide +kernel
theorem dX12_init_48 : decode cX12_init 48 = .ok (.sipush 260, 3) := by decide +kernel
theorem dX12_init_51 : decode cX12_init 51 = .ok (.newarray .int, 2) := by decide +kernel
theorem dX12_init_53 : decode cX12_init 53 = .ok (.putfield 26, 3) := by decide +kernel
theorem dX12_init_56 : decode cX12_init 56 = .ok (.aload_n 0, 1) := by decide +kernel
theorem dX12_init_57 : decode cX12_init 57 = .ok (.bipush 16, 2) := by decide +kernel
theorem dX12_init_59 : decode cX12_init 59 = .ok (.newarray .int, 2) := by decide +kernel
theorem dX12_init_61 : decode cX12_init 61 = .ok (.putfield 29, 3) := by decide +kernel
theorem dX12_init_64 : decode cX12_init 64 = .ok (.aload_n 0, 1) := by decide +kernel
theorem dX12_init_65 : decode cX12_init 65 = .ok (.bipush 16, 2) := by decide +kernel
theorem dX12_init_67 : decode cX12_init 67 = .ok (.newarray .int, 2) := by decide +kernel
theorem dX12_init_69 : decode cX12_init 69 = .ok (.putfield 32, 3) := by decide +kernel
theorem dX12_init_72 : decode cX12_init 72 = .ok (.aload_n 0, 1) := by decide +kernel
theorem dX12_init_73 : decode cX12_init 73 = .ok (.bipush 16, 2) := by decide +kernel
theorem dX12_init_75 : decode cX12_init 75 = .ok (.newarray .int, 2) := by decide +kernel
theorem dX12_init_77 : decode cX12_init 77 = .ok (.putfield 35, 3) := by decide +kernel
theorem dX12_init_80 : decode cX12_init 80 = .ok (.aload_n 0, 1) := by decide +kernel
theorem dX12_init_81 : decode cX12_init 81 = .ok (.bipush 16, 2) := by decide +kernel
theorem dX12_init_83 : decode cX12_init 83 = .ok (.newarray .int, 2) := by decide +kernel
theorem dX12_init_85 : decode cX12_init 85 = .ok (.putfield 38, 3) := by decide +kernel
theorem dX12_init_88 : decode cX12_init 88 = .ok (.aload_n 0, 1) := by decide +kernel
theorem dX12_init_89 : decode cX12_init 89 = .ok (.sipush 1300, 3) := by decide +kernel
theorem dX12_init_92 : decode cX12_init 92 = .ok (.newarray .int, 2) := by decide +kernel
theorem dX12_init_94 : decode cX12_init 94 = .ok (.putfield 41, 3) := by decide +kernel
theorem dX12_init_97 : decode cX12_init 97 = .ok (.aload_n 0, 1) := by decide +kernel
theorem dX12_init_98 : decode cX12_init 98 = .ok (.iconst 5, 1) := by decide +kernel
theorem dX12_init_99 : decode cX12_init 99 = .ok (.newarray .int, 2) := by decide +kernel
theorem dX12_init_101 : decode cX12_init 101 = .ok (.putfield 44, 3) := by decide +kernel
theorem dX12_init_104 : decode cX12_init 104 = .ok (.aload_n 0, 1) := by decide +kernel
theorem dX12_init_105 : decode cX12_init 105 = .ok (.bipush 80, 2) := by decide +kernel
theorem dX12_init_107 : decode cX12_init 107 = .ok (.newarray .int, 2) := by decide +kernel
theorem dX12_init_109 : decode cX12_init 109 = .ok (.putfield 47, 3) := by decide +kernel
theorem dX12_init_112 : decode cX12_init 112 = .ok (.aload_n 0, 1) := by decide +kernel
theorem dX12_init_113 : decode cX12_init 113 = .ok (.bipush 80, 2) := by decide +kernel
theorem dX12_init_115 : decode cX12_init 115 = .ok (.newarray .int, 2) := by decide +kernel
theorem dX12_init_117 : decode cX12_init 117 = .ok (.putfield 50, 3) := by decide +kernel
theorem dX12_init_120 : decode cX12_init 120 = .ok (.aload_n 0, 1) := by decide +kernel
theorem dX12_init_121 : decode cX12_init 121 = .ok (.bipush 80, 2) := by decide +kernel
theorem dX12_init_123 : decode cX12_init 123 = .ok (.newarray .int, 2) := by decide +kernel
theorem dX12_init_125 : decode cX12_init 125 = .ok (.putfield 53, 3) := by decide +kernel
theorem dX12_init_128 : decode cX12_init 128 = .ok (.aload_n 0, 1) := by decide +kernel
theorem dX12_init_129 : decode cX12_init 129 = .ok (.bipush 80, 2) := by decide +kernel
theorem dX12_init_131 : decode cX12_init 131 = .ok (.newarray .int, 2) := by decide +kernel
theorem dX12_init_133 : decode cX12_init 133 = .ok (.putfield 56, 3) := by decide +kernel
theorem dX12_init_136 : decode cX12_init 136 = .ok (.aload_n 0, 1) := by decide +kernel
theorem dX12_init_137 : decode cX12_init 137 = .ok (.sipush 260, 3) := by decide +kernel
theorem dX12_init_140 : decode cX12_init 140 = .ok (.newarray .int, 2) := by decide +kernel
theorem dX12_init_142 : decode cX12_init 142 = .ok (.putfield 59, 3) := by decide +kernel
theorem dX12_init_145 : decode cX12_init 145 = .ok (.aload_n 0, 1) := by decide +kernel
theorem dX12_init_146 : decode cX12_init 146 = .ok (.bipush 9, 2) := by decide +kernel
theorem dX12_init_148 : decode cX12_init 148 = .ok (.newarray .int, 2) := by decide +kernel
theorem dX12_init_150 : decode cX12_init 150 = .ok (.putfield 62, 3) := by decide +kernel
theorem dX12_init_153 : decode cX12_init 153 = .ok (.aload_n 0, 1) := by decide +kernel
theorem dX12_init_154 : decode cX12_init 154 = .ok (.bipush 7, 2) := by decide +kernel
theorem dX12_init_156 : decode cX12_init 156 = .ok (.newarray .int, 2) := by decide +kernel
theorem dX12_init_158 : decode cX12_init 158 = .ok (.putfield 65, 3) := by decide +kernel
theorem dX12_init_161 : decode cX12_init 161 = .ok (.aload_n 0, 1) := by decide +kernel
theorem dX12_init_162 : decode cX12_init 162 = .ok (.ldc 68, 2) := by decide +kernel
theorem dX12_init_164 : decode cX12_init 164 = .ok (.newarray .byte, 2) := by decide +kernel
theorem dX12_init_166 : decode cX12_init 166 = .ok (.putfield 69, 3) := by decide +kernel
theorem dX12_init_169 : decode cX12_init 169 = .ok (.aload_n 0, 1) := by decide +kernel
theorem dX12_init_170 : decode cX12_init 170 = .ok (.sipush 6272, 3) := by decide +kernel
theorem dX12_init_173 : decode cX12_init 173 = .ok (.newarray .long, 2) := by decide +kernel
theorem dX12_init_175 : decode cX12_init 175 = .ok (.putfield 72, 3) := by decide +kernel
theorem dX12_init_178 : decode cX12_init 178 = .ok (.aload_n 0, 1) := by decide +kernel
theorem dX12_init_179 : decode cX12_init 179 = .ok (.sipush 6272, 3) := by decide +kernel
theorem dX12_init_182 : decode cX12_init 182 = .ok (.newarray .long, 2) := by decide +kernel
theorem dX12_init_184 : decode cX12_init 184 = .ok (.putfield 76, 3) := by decide +kernel
theorem dX12_init_187 : decode cX12_init 187 = .ok (.aload_n 0, 1) := by decide +kernel
theorem dX12_init_188 : decode cX12_init 188 = .ok (.sipush 6272, 3) := by decide +kernel
theorem dX12_init_191 : decode cX12_init 191 = .ok (.newarray .byte, 2) := by decide +kernel
theorem dX12_init_193 : decode cX12_init 193 = .ok (.putfield 79, 3) := by decide +kernel
theorem dX12_init_196 : decode cX12_init 196 = .ok (.aload_n 0, 1) := by decide +kernel
theorem dX12_init_197 : decode cX12_init 197 = .ok (.bipush 16, 2) := by decide +kernel
theorem dX12_init_199 : decode cX12_init 199 = .ok (.newarray .long, 2) := by decide +kernel
theorem dX12_init_201 : decode cX12_init 201 = .ok (.putfield 82, 3) := by decide +kernel
theorem dX12_init_204 : decode cX12_init 204 = .ok (.aload_n 0, 1) := by decide +kernel
theorem dX12_init_205 : decode cX12_init 205 = .ok (.bipush 14, 2) := by decide +kernel
theorem dX12_init_207 : decode cX12_init 207 = .ok (.newarray .long, 2) := by decide +kernel
theorem dX12_init_209 : decode cX12_init 209 = .ok (.putfield 85, 3) := by decide +kernel
theorem dX12_init_212 : decode cX12_init 212 = .ok (.aload_n 0, 1) := by decide +kernel
theorem dX12_init_213 : decode cX12_init 213 = .ok (.sipush 392, 3) := by decide +kernel
theorem dX12_init_216 : decode cX12_init 216 = .ok (.newarray .int, 2) := by decide +kernel
theorem dX12_init_218 : decode cX12_init 218 = .ok (.putfield 88, 3) := by decide +kernel
theorem dX12_init_221 : decode cX12_init 221 = .ok (.aload_n 0, 1) := by decide +kernel
theorem dX12_init_222 : decode cX12_init 222 = .ok (.bipush 7, 2) := by decide +kernel
theorem dX12_init_224 : decode cX12_init 224 = .ok (.newarray .int, 2) := by decide +kernel
theorem dX12_init_226 : decode cX12_init 226 = .ok (.putfield 91, 3) := by decide +kernel
theorem dX12_init_229 : decode cX12_init 229 = .ok (.aload_n 0, 1) := by decide +kernel
theorem dX12_init_230 : decode cX12_init 230 = .ok (.bipush 6, 2) := by decide +kernel
theorem dX12_init_232 : decode cX12_init 232 = .ok (.newarray .int, 2) := by decide +kernel
theorem dX12_init_234 : decode cX12_init 234 = .ok (.putfield 94, 3) := by decide +kernel
theorem dX12_init_237 : decode cX12_init 237 = .ok (.aload_n 0, 1) := by decide +kernel
theorem dX12_init_238 : decode cX12_init 238 = .ok (.iconst 5, 1) := by decide +kernel
theorem dX12_init_239 : decode cX12_init 239 = .ok (.newarray .int, 2) := by decide +kernel
theorem dX12_init_241 : decode cX12_init 241 = .ok (.putfield 97, 3) := by decide +kernel
theorem dX12_init_244 : decode cX12_init 244 = .ok (.aload_n 0, 1) := by decide +kernel
theorem dX12_init_245 : decode cX12_init 245 = .ok (.iconst 5, 1) := by decide +kernel
theorem dX12_init_246 : decode cX12_init 246 = .ok (.newarray .int, 2) := by decide +kernel
theorem dX12_init_248 : decode cX12_init 248 = .ok (.putfield 100, 3) := by decide +kernel
theorem dX12_init_251 : decode cX12_init 251 = .ok (.aload_n 0, 1) := by decide +kernel
theorem dX12_init_252 : decode cX12_init 252 = .ok (.bipush 64, 2) := by decide +kernel
theorem dX12_init_254 : decode cX12_init 254 = .ok (.newarray .int, 2) := by decide +kernel
theorem dX12_init_256 : decode cX12_init 256 = .ok (.putfield 103, 3) := by decide +kernel
theorem dX12_init_259 : decode cX12_init 259 = .ok (.aload_n 0, 1) := by decide +kernel
theorem dX12_init_260 : decode cX12_init 260 = .ok (.bipush 64, 2) := by decide +kernel
theorem dX12_init_262 : decode cX12_init 262 = .ok (.newarray .int, 2) := by decide +kernel
theorem dX12_init_264 : decode cX12_init 264 = .ok (.putfield 106, 3) := by decide +kernel
theorem dX12_init_267 : decode cX12_init 267 = .ok (.aload_n 0, 1) := by decide +kernel
theorem dX12_init_268 : decode cX12_init 268 = .ok (.bipush 64, 2) := by decide +kernel
theorem dX12_init_270 : decode cX12_init 270 = .ok (.newarray .int, 2) := by decide +kernel
theorem dX12_init_272 : decode cX12_init 272 = .ok (.putfield 109, 3) := by decide +kernel
theorem dX12_init_275 : decode cX12_init 275 = .ok (.aload_n 0, 1) := by decide +kernel
theorem dX12_init_276 : decode cX12_init 276 = .ok (.bipush 64, 2) := by decide +kernel
theorem dX12_init_278 : decode cX12_init 278 = .ok (.newarray .int, 2) := by decide +kernel
theorem dX12_init_280 : decode cX12_init 280 = .ok (.putfield 112, 3) := by decide +kernel
theorem dX12_init_283 : decode cX12_init 283 = .ok (.aload_n 0, 1) := by decide +kernel
theorem dX12_init_284 : decode cX12_init 284 = .ok (.bipush 12, 2) := by decide +kernel
theorem dX12_init_286 : decode cX12_init 286 = .ok (.newarray .int, 2) := by decide +kernel
theorem dX12_init_288 : decode cX12_init 288 = .ok (.putfield 115, 3) := by decide +kernel
theorem dX12_init_291 : decode cX12_init 291 = .ok (.aload_n 0, 1) := by decide +kernel
theorem dX12_init_292 : decode cX12_init 292 = .ok (.bipush 12, 2) := by decide +kernel
theorem dX12_init_294 : decode cX12_init 294 = .ok (.newarray .int, 2) := by decide +kernel
theorem dX12_init_296 : decode cX12_init 296 = .ok (.putfield 118, 3) := by decide +kernel
theorem dX12_init_299 : decode cX12_init 299 = .ok (.aload_n 0, 1) := by decide +kernel
theorem dX12_init_300 : decode cX12_init 300 = .ok (.bipush 12, 2) := by decide +kernel
theorem dX12_init_302 : decode cX12_init 302 = .ok (.newarray .int, 2) := by decide +kernel
theorem dX12_init_304 : decode cX12_init 304 = .ok (.putfield 121, 3) := by decide +kernel
theorem dX12_init_307 : decode cX12_init 307 = .ok (.aload_n 0, 1) := by decide +kernel
theorem dX12_init_308 : decode cX12_init 308 = .ok (.iconst 5, 1) := by decide +kernel
theorem dX12_init_309 : decode cX12_init 309 = .ok (.newarray .int, 2) := by decide +kernel
theorem dX12_init_311 : decode cX12_init 311 = .ok (.putfield 124, 3) := by decide +kernel
theorem dX12_init_314 : decode cX12_init 314 = .ok (.aload_n 0, 1) := by decide +kernel
theorem dX12_init_315 : decode cX12_init 315 = .ok (.iconst 5, 1) := by decide +kernel
theorem dX12_init_316 : decode cX12_init 316 = .ok (.newarray .int, 2) := by decide +kernel
theorem dX12_init_318 : decode cX12_init 318 = .ok (.putfield 127, 3) := by decide +kernel
theorem dX12_init_321 : decode cX12_init 321 = .ok (.aload_n 0, 1) := by decide +kernel
theorem dX12_init_322 : decode cX12_init 322 = .ok (.bipush 12, 2) := by decide +kernel
theorem dX12_init_324 : decode cX12_init 324 = .ok (.newarray .int, 2) := by decide +kernel
theorem dX12_init_326 : decode cX12_init 326 = .ok (.putfield 130, 3) := by decide +kernel
theorem dX12_init_329 : decode cX12_init 329 = .ok (.aload_n 0, 1) := by decide +kernel
theorem dX12_init_330 : decode cX12_init 330 = .ok (.bipush 12, 2) := by decide +kernel
theorem dX12_init_332 : decode cX12_init 332 = .ok (.newarray .int, 2) := by decide +kernel
theorem dX12_init_334 : decode cX12_init 334 = .ok (.putfield 133, 3) := by decide +kernel
theorem dX12_init_337 : decode cX12_init 337 = .ok (.aload_n 0, 1) := by decide +kernel
theorem dX12_init_338 : decode cX12_init 338 = .ok (.bipush 12, 2) := by decide +kernel
theorem dX12_init_340 : decode cX12_init 340 = .ok (.newarray .int, 2) := by decide +kernel
theorem dX12_init_342 : decode cX12_init 342 = .ok (.putfield 136, 3) := by decide +kernel
theorem dX12_init_345 : decode cX12_init 345 = .ok (.aload_n 0, 1) := by decide +kernel
theorem dX12_init_346 : decode cX12_init 346 = .ok (.bipush 8, 2) := by decide +kernel
theorem dX12_init_348 : decode cX12_init 348 = .ok (.putfield 139, 3) := by decide +kernel
theorem dX12_init_351 : decode cX12_init 351 = .ok (.aload_n 0, 1) := by decide +kernel
theorem dX12_init_352 : decode cX12_init 352 = .ok (.bipush 8, 2) := by decide +kernel
theorem dX12_init_354 : decode cX12_init 354 = .ok (.putfield 143, 3) := by decide +kernel
theorem dX12_init_357 : decode cX12_init 357 = .ok (.aload_n 0, 1) := by decide +kernel
theorem dX12_init_358 : decode cX12_init 358 = .ok (.iconst 1, 1) := by decide +kernel
theorem dX12_init_359 : decode cX12_init 359 = .ok (.putfield 146, 3) := by decide +kernel
theorem dX12_init_362 : decode cX12_init 362 = .ok (.aload_n 0, 1) := by decide +kernel
theorem dX12_init_363 : decode cX12_init 363 = .ok (.bipush 50, 2) := by decide +kernel
theorem dX12_init_365 : decode cX12_init 365 = .ok (.putfield 149, 3) := by decide +kernel
theorem dX12_init_368 : decode cX12_init 368 = .ok (.aload_n 0, 1) := by decide +kernel
theorem dX12_init_369 : decode cX12_init 369 = .ok (.bipush 50, 2) := by decide +kernel
theorem dX12_init_371 : decode cX12_init 371 = .ok (.putfield 152, 3) := by decide +kernel
theorem dX12_init_374 : decode cX12_init 374 = .ok (.aload_n 0, 1) := by decide +kernel
theorem dX12_init_375 : decode cX12_init 375 = .ok (.iconst (-1), 1) := by decide +kernel
theorem dX12_init_376 : decode cX12_init 376 = .ok (.putfield 155, 3) := by decide +kernel
theorem dX12_init_379 : decode cX12_init 379 = .ok (.iconst 0, 1) := by decide +kernel
theorem dX12_init_380 : decode cX12_init 380 = .ok (.istore_n 1, 1) := by decide +kernel
theorem dX12_init_381 : decode cX12_init 381 = .ok (.iconst 0, 1) := by decide +kernel
theorem dX12_init_382 : decode cX12_init 382 = .ok (.istore_n 2, 1) := by decide +kernel
theorem dX12_init_383 : decode cX12_init 383 = .ok (.iload_n 2, 1) := by decide +kernel
theorem dX12_init_384 : decode cX12_init 384 = .ok (.ldc 158, 2) := by decide +kernel
theorem dX12_init_386 : decode cX12_init 386 = .ok (.if_icmp .ge 30, 3) := by decide +kernel
theorem dX12_init_389 : decode cX12_init 389 = .ok (.iload_n 2, 1) := by decide +kernel
theorem dX12_init_390 : decode cX12_init 390 = .ok (.invokestatic 159, 3) := by decide +kernel
theorem dX12_init_393 : decode cX12_init 393 = .ok (.ifCond .ne 6, 3) := by decide +kernel
theorem dX12_init_396 : decode cX12_init 396 = .ok (.goto 14, 3) := by decide +kernel
theorem dX12_init_399 : decode cX12_init 399 = .ok (.aload_n 0, 1) := by decide +kernel
theorem dX12_init_400 : decode cX12_init 400 = .ok (.getfield 7, 3) := by decide +kernel
theorem dX12_init_403 : decode cX12_init 403 = .ok (.iload_n 1, 1) := by decide +kernel
theorem dX12_init_404 : decode cX12_init 404 = .ok (.iload_n 2, 1) := by decide +kernel
theorem dX12_init_405 : decode cX12_init 405 = .ok (.iastore, 1) := by decide +kernel
theorem dX12_init_406 : decode cX12_init 406 = .ok (.iload_n 1, 1) := by decide +kernel
theorem dX12_init_407 : decode cX12_init 407 = .ok (.iconst 1, 1) := by decide +kernel
theorem dX12_init_408 : decode cX12_init 408 = .ok (.iadd, 1) := by decide +kernel
theorem dX12_init_409 : decode cX12_init 409 = .ok (.istore_n 1, 1) := by decide +kernel
theorem dX12_init_410 : decode cX12_init 410 = .ok (.iinc 2 1, 3) := by decide +kernel
theorem dX12_init_413 : decode cX12_init 413 = .ok (.goto (-30), 3) := by decide +kernel
theorem dX12_init_416 : decode cX12_init 416 = .ok (.iconst 0, 1) := by decide +kernel
theorem dX12_init_417 : decode cX12_init 417 = .ok (.istore_n 2, 1) := by decide +kernel
theorem dX12_init_418 : decode cX12_init 418 = .ok (.iload_n 2, 1) := by decide +kernel
theorem dX12_init_419 : decode cX12_init 419 = .ok (.bipush 56, 2) := by decide +kernel
theorem dX12_init_421 : decode cX12_init 421 = .ok (.if_icmp .ge 132, 3) := by decide +kernel
theorem dX12_init_424 : decode cX12_init 424 = .ok (.aload_n 0, 1) := by decide +kernel
theorem dX12_init_425 : decode cX12_init 425 = .ok (.getfield 7, 3) := by decide +kernel
theorem dX12_init_428 : decode cX12_init 428 = .ok (.iload_n 2, 1) := by decide +kernel
theorem dX12_init_429 : decode cX12_init 429 = .ok (.iaload, 1) := by decide +kernel
theorem dX12_init_430 : decode cX12_init 430 = .ok (.istore_n 3, 1) := by decide +kernel
theorem dX12_init_431 : decode cX12_init 431 = .ok (.iconst 0, 1) := by decide +kernel
theorem dX12_init_432 : decode cX12_init 432 = .ok (.istore 4, 2) := by decide +kernel
theorem dX12_init_434 : decode cX12_init 434 = .ok (.iload 4, 2) := by decide +kernel
theorem dX12_init_436 : decode cX12_init 436 = .ok (.iconst 4, 1) := by decide +kernel
theorem dX12_init_437 : decode cX12_init 437 = .ok (.if_icmp .ge 46, 3) := by decide +kernel
theorem dX12_init_440 : decode cX12_init 440 = .ok (.aload_n 0, 1) := by decide +kernel
theorem dX12_init_441 : decode cX12_init 441 = .ok (.getfield 13, 3) := by decide +kernel
theorem dX12_init_444 : decode cX12_init 444 = .ok (.iconst 5, 1) := by decide +kernel
theorem dX12_init_445 : decode cX12_init 445 = .ok (.iload_n 2, 1) := by decide +kernel
theorem dX12_init_446 : decode cX12_init 446 = .ok (.imul, 1) := by decide +kernel
theorem dX12_init_447 : decode cX12_init 447 = .ok (.iload 4, 2) := by decide +kernel
theorem dX12_init_449 : decode cX12_init 449 = .ok (.iadd, 1) := by decide +kernel
theorem dX12_init_450 : decode cX12_init 450 = .ok (.iload_n 3, 1) := by decide +kernel
theorem dX12_init_451 : decode cX12_init 451 = .ok (.sipush 10000, 3) := by decide +kernel
theorem dX12_init_454 : decode cX12_init 454 = .ok (.if_icmp .ge 7, 3) := by decide +kernel
theorem dX12_init_457 : decode cX12_init 457 = .ok (.iconst (-1), 1) := by decide +kernel
theorem dX12_init_458 : decode cX12_init 458 = .ok (.goto 18, 3) := by decide +kernel
theorem dX12_init_461 : decode cX12_init 461 = .ok (.aload_n 0, 1) := by decide +kernel
theorem dX12_init_462 : decode cX12_init 462 = .ok (.iload_n 3, 1) := by decide +kernel
theorem dX12_init_463 : decode cX12_init 463 = .ok (.sipush 10000, 3) := by decide +kernel
theorem dX12_init_466 : decode cX12_init 466 = .ok (.isub, 1) := by decide +kernel
theorem dX12_init_467 : decode cX12_init 467 = .ok (.iload 4, 2) := by decide +kernel
theorem dX12_init_469 : decode cX12_init 469 = .ok (.invokestatic 163, 3) := by decide +kernel
theorem dX12_init_472 : decode cX12_init 472 = .ok (.iadd, 1) := by decide +kernel
theorem dX12_init_473 : decode cX12_init 473 = .ok (.invokevirtual 167, 3) := by decide +kernel
theorem dX12_init_476 : decode cX12_init 476 = .ok (.iastore, 1) := by decide +kernel
theorem dX12_init_477 : decode cX12_init 477 = .ok (.iinc 4 1, 3) := by decide +kernel
theorem dX12_init_480 : decode cX12_init 480 = .ok (.goto (-46), 3) := by decide +kernel
theorem dX12_init_483 : decode cX12_init 483 = .ok (.aload_n 0, 1) := by decide +kernel
theorem dX12_init_484 : decode cX12_init 484 = .ok (.getfield 13, 3) := by decide +kernel
theorem dX12_init_487 : decode cX12_init 487 = .ok (.iconst 5, 1) := by decide +kernel
theorem dX12_init_488 : decode cX12_init 488 = .ok (.iload_n 2, 1) := by decide +kernel
theorem dX12_init_489 : decode cX12_init 489 = .ok (.imul, 1) := by decide +kernel
theorem dX12_init_490 : decode cX12_init 490 = .ok (.iconst 4, 1) := by decide +kernel
theorem dX12_init_491 : decode cX12_init 491 = .ok (.iadd, 1) := by decide +kernel
theorem dX12_init_492 : decode cX12_init 492 = .ok (.iload_n 3, 1) := by decide +kernel
theorem dX12_init_493 : decode cX12_init 493 = .ok (.sipush 10000, 3) := by decide +kernel
theorem dX12_init_496 : decode cX12_init 496 = .ok (.if_icmp .ge 7, 3) := by decide +kernel
theorem dX12_init_499 : decode cX12_init 499 = .ok (.iconst (-1), 1) := by decide +kernel
theorem dX12_init_500 : decode cX12_init 500 = .ok (.goto 12, 3) := by decide +kernel
theorem dX12_init_503 : decode cX12_init 503 = .ok (.aload_n 0, 1) := by decide +kernel
theorem dX12_init_504 : decode cX12_init 504 = .ok (.iload_n 3, 1) := by decide +kernel
theorem dX12_init_505 : decode cX12_init 505 = .ok (.sipush 10000, 3) := by decide +kernel
theorem dX12_init_508 : decode cX12_init 508 = .ok (.isub, 1) := by decide +kernel
theorem dX12_init_509 : decode cX12_init 509 = .ok (.invokevirtual 167, 3) := by decide +kernel
theorem dX12_init_512 : decode cX12_init 512 = .ok (.iastore, 1) := by decide +kernel
theorem dX12_init_513 : decode cX12_init 513 = .ok (.aload_n 0, 1) := by decide +kernel
theorem dX12_init_514 : decode cX12_init 514 = .ok (.iload_n 2, 1) := by decide +kernel
theorem dX12_init_515 : decode cX12_init 515 = .ok (.invokevirtual 170, 3) := by decide +kernel
theorem dX12_init_518 : decode cX12_init 518 = .ok (.istore 4, 2) := by decide +kernel
theorem dX12_init_520 : decode cX12_init 520 = .ok (.aload_n 0, 1) := by decide +kernel
theorem dX12_init_521 : decode cX12_init 521 = .ok (.getfield 16, 3) := by decide +kernel
theorem dX12_init_524 : decode cX12_init 524 = .ok (.iload_n 2, 1) := by decide +kernel
theorem dX12_init_525 : decode cX12_init 525 = .ok (.iload 4, 2) := by decide +kernel
theorem dX12_init_527 : decode cX12_init 527 = .ok (.iconst 4, 1) := by decide +kernel
theorem dX12_init_528 : decode cX12_init 528 = .ok (.if_icmp .ne 7, 3) := by decide +kernel
theorem dX12_init_531 : decode cX12_init 531 = .ok (.iconst (-1), 1) := by decide +kernel
theorem dX12_init_532 : decode cX12_init 532 = .ok (.goto 14, 3) := by decide +kernel
theorem dX12_init_535 : decode cX12_init 535 = .ok (.aload_n 0, 1) := by decide +kernel
theorem dX12_init_536 : decode cX12_init 536 = .ok (.iload_n 3, 1) := by decide +kernel
theorem dX12_init_537 : decode cX12_init 537 = .ok (.iload 4, 2) := by decide +kernel
theorem dX12_init_539 : decode cX12_init 539 = .ok (.invokestatic 163, 3) := by decide +kernel
theorem dX12_init_542 : decode cX12_init 542 = .ok (.isub, 1) := by decide +kernel
theorem dX12_init_543 : decode cX12_init 543 = .ok (.invokevirtual 167, 3) := by decide +kernel
theorem dX12_init_546 : decode cX12_init 546 = .ok (.iastore, 1) := by decide +kernel
theorem dX12_init_547 : decode cX12_init 547 = .ok (.iinc 2 1, 3) := by decide +kernel
theorem dX12_init_550 : decode cX12_init 550 = .ok (.goto (-132), 3) := by decide +kernel
theorem dX12_init_553 : decode cX12_init 553 = .ok (.return_, 1) := by decide +kernel
theorem dX12_in_0 : decode cX12_in 0 = .ok (.iload_n 0, 1) := by decide +kernel
theorem dX12_in_1 : decode cX12_in 1 = .ok (.iload_n 1, 1) := by decide +kernel
theorem dX12_in_2 : decode cX12_in 2 = .ok (.if_icmp .lt 12, 3) := by decide +kernel
theorem dX12_in_5 : decode cX12_in 5 = .ok (.iload_n 0, 1) := by decide +kernel
theorem dX12_in_6 : decode cX12_in 6 = .ok (.iload_n 2, 1) := by decide +kernel
theorem dX12_in_7 : decode cX12_in 7 = .ok (.if_icmp .gt 7, 3) := by decide +kernel
theorem dX12_in_10 : decode cX12_in 10 = .ok (.iconst 1, 1) := by decide +kernel
theorem dX12_in_11 : decode cX12_in 11 = .ok (.goto 4, 3) := by decide +kernel
theorem dX12_in_14 : decode cX12_in 14 = .ok (.iconst 0, 1) := by decide +kernel
theorem dX12_in_15 : decode cX12_in 15 = .ok (.ireturn, 1) := by decide +kernel
theorem dX12_min_0 : decode cX12_min 0 = .ok (.iload_n 0, 1) := by decide +kernel
theorem dX12_min_1 : decode cX12_min 1 = .ok (.iload_n 1, 1) := by decide +kernel
theorem dX12_min_2 : decode cX12_min 2 = .ok (.if_icmp .ge 7, 3) := by decide +kernel
theorem dX12_min_5 : decode cX12_min 5 = .ok (.iload_n 0, 1) := by decide +kernel
theorem dX12_min_6 : decode cX12_min 6 = .ok (.goto 4, 3) := by decide +kernel
theorem dX12_min_9 : decode cX12_min 9 = .ok (.iload_n 1, 1) := by decide +kernel
theorem dX12_min_10 : decode cX12_min 10 = .ok (.ireturn, 1) := by decide +kernel
theorem dX12_max_0 : decode cX12_max 0 = .ok (.iload_n 0, 1) := by decide +kernel
theorem dX12_max_1 : decode cX12_max 1 = .ok (.iload_n 1, 1) := by decide +kernel
theorem dX12_max_2 : decode cX12_max 2 = .ok (.if_icmp .le 7, 3) := by decide +kernel
theorem dX12_max_5 : decode cX12_max 5 = .ok (.iload_n 0, 1) := by decide +kernel
theorem dX12_max_6 : decode cX12_max 6 = .ok (.goto 4, 3) := by decide +kernel
theorem dX12_max_9 : decode cX12_max 9 = .ok (.iload_n 1, 1) := by decide +kernel
theorem dX12_max_10 : decode cX12_max 10 = .ok (.ireturn, 1) := by decide +kernel
theorem dX12_size_0 : decode cX12_size 0 = .ok (.iload_n 0, 1) := by decide +kernel
theorem dX12_size_1 : decode cX12_size 1 = .ok (.ifCond .ge 8, 3) := by decide +kernel
theorem dX12_size_4 : decode cX12_size 4 = .ok (.iload_n 0, 1) := by decide +kernel
theorem dX12_size_5 : decode cX12_size 5 = .ok (.ineg, 1) := by decide +kernel
theorem dX12_size_6 : decode cX12_size 6 = .ok (.goto 4, 3) := by decide +kernel
theorem dX12_size_9 : decode cX12_size 9 = .ok (.iload_n 0, 1) := by decide +kernel
theorem dX12_size_10 : decode cX12_size 10 = .ok (.ireturn, 1) := by decide +kernel
theorem dX12_isSide_0 : decode cX12_isSide 0 = .ok (.iload_n 0, 1) := by decide +kernel
theorem dX12_isSide_1 : decode cX12_isSide 1 = .ok (.ifCond .eq 8, 3) := by decide +kernel
theorem dX12_isSide_4 : decode cX12_isSide 4 = .ok (.iload_n 0, 1) := by decide +kernel
theorem dX12_isSide_5 : decode cX12_isSide 5 = .ok (.iconst 1, 1) := by decide +kernel
theorem dX12_isSide_6 : decode cX12_isSide 6 = .ok (.if_icmp .ne 7, 3) := by decide +kernel
theorem dX12_isSide_9 : decode cX12_isSide 9 = .ok (.iconst 1, 1) := by decide +kernel
theorem dX12_isSide_10 : decode cX12_isSide 10 = .ok (.goto 4, 3) := by decide +kernel
theorem dX12_isSide_13 : decode cX12_isSide 13 = .ok (.iconst 0, 1) := by decide +kernel
theorem dX12_isSide_14 : decode cX12_isSide 14 = .ok (.ireturn, 1) := by decide +kernel
theorem dX12_isCode_0 : decode cX12_isCode 0 = .ok (.iconst 0, 1) := by decide +kernel
theorem dX12_isCode_1 : decode cX12_isCode 1 = .ok (.istore_n 1, 1) := by decide +kernel
theorem dX12_isCode_2 : decode cX12_isCode 2 = .ok (.iload_n 0, 1) := by decide +kernel
theorem dX12_isCode_3 : decode cX12_isCode 3 = .ok (.istore_n 2, 1) := by decide +kernel
theorem dX12_isCode_4 : decode cX12_isCode 4 = .ok (.iload_n 2, 1) := by decide +kernel
theorem dX12_isCode_5 : decode cX12_isCode 5 = .ok (.ifCond .le 18, 3) := by decide +kernel
theorem dX12_isCode_8 : decode cX12_isCode 8 = .ok (.iload_n 1, 1) := by decide +kernel
theorem dX12_isCode_9 : decode cX12_isCode 9 = .ok (.iload_n 2, 1) := by decide +kernel
theorem dX12_isCode_10 : decode cX12_isCode 10 = .ok (.bipush 10, 2) := by decide +kernel
theorem dX12_isCode_12 : decode cX12_isCode 12 = .ok (.irem, 1) := by decide +kernel
theorem dX12_isCode_13 : decode cX12_isCode 13 = .ok (.iadd, 1) := by decide +kernel
theorem dX12_isCode_14 : decode cX12_isCode 14 = .ok (.istore_n 1, 1) := by decide +kernel
theorem dX12_isCode_15 : decode cX12_isCode 15 = .ok (.iload_n 2, 1) := by decide +kernel
theorem dX12_isCode_16 : decode cX12_isCode 16 = .ok (.bipush 10, 2) := by decide +kernel
theorem dX12_isCode_18 : decode cX12_isCode 18 = .ok (.idiv, 1) := by decide +kernel
theorem dX12_isCode_19 : decode cX12_isCode 19 = .ok (.istore_n 2, 1) := by decide +kernel
theorem dX12_isCode_20 : decode cX12_isCode 20 = .ok (.goto (-16), 3) := by decide +kernel
theorem dX12_isCode_23 : decode cX12_isCode 23 = .ok (.iload_n 0, 1) := by decide +kernel
theorem dX12_isCode_24 : decode cX12_isCode 24 = .ok (.iconst 0, 1) := by decide +kernel
theorem dX12_isCode_25 : decode cX12_isCode 25 = .ok (.sipush 30000, 3) := by decide +kernel
theorem dX12_isCode_28 : decode cX12_isCode 28 = .ok (.invokestatic 173, 3) := by decide +kernel
theorem dX12_isCode_31 : decode cX12_isCode 31 = .ok (.ifCond .eq 12, 3) := by decide +kernel
theorem dX12_isCode_34 : decode cX12_isCode 34 = .ok (.iload_n 1, 1) := by decide +kernel
theorem dX12_isCode_35 : decode cX12_isCode 35 = .ok (.iconst 3, 1) := by decide +kernel
theorem dX12_isCode_36 : decode cX12_isCode 36 = .ok (.if_icmp .gt 7, 3) := by decide +kernel
theorem dX12_isCode_39 : decode cX12_isCode 39 = .ok (.iconst 1, 1) := by decide +kernel
theorem dX12_isCode_40 : decode cX12_isCode 40 = .ok (.goto 4, 3) := by decide +kernel
theorem dX12_isCode_43 : decode cX12_isCode 43 = .ok (.iconst 0, 1) := by decide +kernel
theorem dX12_isCode_44 : decode cX12_isCode 44 = .ok (.ireturn, 1) := by decide +kernel
theorem dX12_unitOf_0 : decode cX12_unitOf 0 = .ok (.iload_n 0, 1) := by decide +kernel
theorem dX12_unitOf_1 : decode cX12_unitOf 1 = .ok (.ifCond .ne 9, 3) := by decide +kernel
theorem dX12_unitOf_4 : decode cX12_unitOf 4 = .ok (.sipush 1000, 3) := by decide +kernel
theorem dX12_unitOf_7 : decode cX12_unitOf 7 = .ok (.goto 24, 3) := by decide +kernel
theorem dX12_unitOf_10 : decode cX12_unitOf 10 = .ok (.iload_n 0, 1) := by decide +kernel
theorem dX12_unitOf_11 : decode cX12_unitOf 11 = .ok (.iconst 1, 1) := by decide +kernel
theorem dX12_unitOf_12 : decode cX12_unitOf 12 = .ok (.if_icmp .ne 8, 3) := by decide +kernel
theorem dX12_unitOf_15 : decode cX12_unitOf 15 = .ok (.bipush 100, 2) := by decide +kernel
theorem dX12_unitOf_17 : decode cX12_unitOf 17 = .ok (.goto 14, 3) := by decide +kernel
theorem dX12_unitOf_20 : decode cX12_unitOf 20 = .ok (.iload_n 0, 1) := by decide +kernel
theorem dX12_unitOf_21 : decode cX12_unitOf 21 = .ok (.iconst 2, 1) := by decide +kernel
theorem dX12_unitOf_22 : decode cX12_unitOf 22 = .ok (.if_icmp .ne 8, 3) := by decide +kernel
theorem dX12_unitOf_25 : decode cX12_unitOf 25 = .ok (.bipush 10, 2) := by decide +kernel
theorem dX12_unitOf_27 : decode cX12_unitOf 27 = .ok (.goto 4, 3) := by decide +kernel
theorem dX12_unitOf_30 : decode cX12_unitOf 30 = .ok (.iconst 1, 1) := by decide +kernel
theorem dX12_unitOf_31 : decode cX12_unitOf 31 = .ok (.ireturn, 1) := by decide +kernel
theorem dX12_standOf_0 : decode cX12_standOf 0 = .ok (.iconst 0, 1) := by decide +kernel
theorem dX12_standOf_1 : decode cX12_standOf 1 = .ok (.istore_n 2, 1) := by decide +kernel
theorem dX12_standOf_2 : decode cX12_standOf 2 = .ok (.iload_n 2, 1) := by decide +kernel
theorem dX12_standOf_3 : decode cX12_standOf 3 = .ok (.bipush 56, 2) := by decide +kernel
theorem dX12_standOf_5 : decode cX12_standOf 5 = .ok (.if_icmp .ge 21, 3) := by decide +kernel
theorem dX12_standOf_8 : decode cX12_standOf 8 = .ok (.aload_n 0, 1) := by decide +kernel
theorem dX12_standOf_9 : decode cX12_standOf 9 = .ok (.getfield 7, 3) := by decide +kernel
theorem dX12_standOf_12 : decode cX12_standOf 12 = .ok (.iload_n 2, 1) := by decide +kernel
theorem dX12_standOf_13 : decode cX12_standOf 13 = .ok (.iaload, 1) := by decide +kernel
theorem dX12_standOf_14 : decode cX12_standOf 14 = .ok (.iload_n 1, 1) := by decide +kernel
theorem dX12_standOf_15 : decode cX12_standOf 15 = .ok (.if_icmp .ne 5, 3) := by decide +kernel
theorem dX12_standOf_18 : decode cX12_standOf 18 = .ok (.iload_n 2, 1) := by decide +kernel
theorem dX12_standOf_19 : decode cX12_standOf 19 = .ok (.ireturn, 1) := by decide +kernel
theorem dX12_standOf_20 : decode cX12_standOf 20 = .ok (.iinc 2 1, 3) := by decide +kernel
theorem dX12_standOf_23 : decode cX12_standOf 23 = .ok (.goto (-21), 3) := by decide +kernel
theorem dX12_standOf_26 : decode cX12_standOf 26 = .ok (.iconst (-1), 1) := by decide +kernel
theorem dX12_standOf_27 : decode cX12_standOf 27 = .ok (.ireturn, 1) := by decide +kernel
theorem dX12_handOf_0 : decode cX12_handOf 0 = .ok (.aload_n 0, 1) := by decide +kernel
theorem dX12_handOf_1 : decode cX12_handOf 1 = .ok (.getfield 7, 3) := by decide +kernel
theorem dX12_handOf_4 : decode cX12_handOf 4 = .ok (.iload_n 1, 1) := by decide +kernel
theorem dX12_handOf_5 : decode cX12_handOf 5 = .ok (.iaload, 1) := by decide +kernel
theorem dX12_handOf_6 : decode cX12_handOf 6 = .ok (.sipush 10000, 3) := by decide +kernel
theorem dX12_handOf_9 : decode cX12_handOf 9 = .ok (.idiv, 1) := by decide +kernel
theorem dX12_handOf_10 : decode cX12_handOf 10 = .ok (.ireturn, 1) := by decide +kernel
theorem dX12_inRing_0 : decode cX12_inRing 0 = .ok (.aload_n 0, 1) := by decide +kernel
theorem dX12_inRing_1 : decode cX12_inRing 1 = .ok (.getfield 7, 3) := by decide +kernel
theorem dX12_inRing_4 : decode cX12_inRing 4 = .ok (.iload_n 1, 1) := by decide +kernel
theorem dX12_inRing_5 : decode cX12_inRing 5 = .ok (.iaload, 1) := by decide +kernel
theorem dX12_inRing_6 : decode cX12_inRing 6 = .ok (.iload_n 2, 1) := by decide +kernel
theorem dX12_inRing_7 : decode cX12_inRing 7 = .ok (.invokestatic 163, 3) := by decide +kernel
theorem dX12_inRing_10 : decode cX12_inRing 10 = .ok (.idiv, 1) := by decide +kernel
theorem dX12_inRing_11 : decode cX12_inRing 11 = .ok (.bipush 10, 2) := by decide +kernel
theorem dX12_inRing_13 : decode cX12_inRing 13 = .ok (.irem, 1) := by decide +kernel
theorem dX12_inRing_14 : decode cX12_inRing 14 = .ok (.ireturn, 1) := by decide +kernel
theorem dX12_bestRing_0 : decode cX12_bestRing 0 = .ok (.iconst 0, 1) := by decide +kernel
theorem dX12_bestRing_1 : decode cX12_bestRing 1 = .ok (.istore_n 2, 1) := by decide +kernel
theorem dX12_bestRing_2 : decode cX12_bestRing 2 = .ok (.iload_n 2, 1) := by decide +kernel
theorem dX12_bestRing_3 : decode cX12_bestRing 3 = .ok (.iconst 4, 1) := by decide +kernel
theorem dX12_bestRing_4 : decode cX12_bestRing 4 = .ok (.if_icmp .ge 19, 3) := by decide +kernel
theorem dX12_bestRing_7 : decode cX12_bestRing 7 = .ok (.aload_n 0, 1) := by decide +kernel
theorem dX12_bestRing_8 : decode cX12_bestRing 8 = .ok (.iload_n 1, 1) := by decide +kernel
theorem dX12_bestRing_9 : decode cX12_bestRing 9 = .ok (.iload_n 2, 1) := by decide +kernel
theorem dX12_bestRing_10 : decode cX12_bestRing 10 = .ok (.invokevirtual 177, 3) := by decide +kernel
theorem dX12_bestRing_13 : decode cX12_bestRing 13 = .ok (.ifCond .ne 10, 3) := by decide +kernel
theorem dX12_bestRing_16 : decode cX12_bestRing 16 = .ok (.iload_n 2, 1) := by decide +kernel
theorem dX12_bestRing_17 : decode cX12_bestRing 17 = .ok (.iconst 1, 1) := by decide +kernel
theorem dX12_bestRing_18 : decode cX12_bestRing 18 = .ok (.iadd, 1) := by decide +kernel
theorem dX12_bestRing_19 : decode cX12_bestRing 19 = .ok (.istore_n 2, 1) := by decide +kernel
theorem dX12_bestRing_20 : decode cX12_bestRing 20 = .ok (.goto (-18), 3) := by decide +kernel
theorem dX12_bestRing_23 : decode cX12_bestRing 23 = .ok (.iload_n 2, 1) := by decide +kernel
theorem dX12_bestRing_24 : decode cX12_bestRing 24 = .ok (.ireturn, 1) := by decide +kernel
theorem dX12_lying_0 : decode cX12_lying 0 = .ok (.iconst 0, 1) := by decide +kernel
theorem dX12_lying_1 : decode cX12_lying 1 = .ok (.istore_n 2, 1) := by decide +kernel
theorem dX12_lying_2 : decode cX12_lying 2 = .ok (.iconst 0, 1) := by decide +kernel
theorem dX12_lying_3 : decode cX12_lying 3 = .ok (.istore_n 3, 1) := by decide +kernel
theorem dX12_lying_4 : decode cX12_lying 4 = .ok (.iload_n 3, 1) := by decide +kernel
theorem dX12_lying_5 : decode cX12_lying 5 = .ok (.iconst 4, 1) := by decide +kernel
theorem dX12_lying_6 : decode cX12_lying 6 = .ok (.if_icmp .ge 18, 3) := by decide +kernel
theorem dX12_lying_9 : decode cX12_lying 9 = .ok (.iload_n 2, 1) := by decide +kernel
theorem dX12_lying_10 : decode cX12_lying 10 = .ok (.aload_n 0, 1) := by decide +kernel
theorem dX12_lying_11 : decode cX12_lying 11 = .ok (.iload_n 1, 1) := by decide +kernel
theorem dX12_lying_12 : decode cX12_lying 12 = .ok (.iload_n 3, 1) := by decide +kernel
theorem dX12_lying_13 : decode cX12_lying 13 = .ok (.invokevirtual 177, 3) := by decide +kernel
theorem dX12_lying_16 : decode cX12_lying 16 = .ok (.iadd, 1) := by decide +kernel
theorem dX12_lying_17 : decode cX12_lying 17 = .ok (.istore_n 2, 1) := by decide +kernel
theorem dX12_lying_18 : decode cX12_lying 18 = .ok (.iinc 3 1, 3) := by decide +kernel
theorem dX12_lying_21 : decode cX12_lying 21 = .ok (.goto (-17), 3) := by decide +kernel
theorem dX12_lying_24 : decode cX12_lying 24 = .ok (.iload_n 2, 1) := by decide +kernel
theorem dX12_lying_25 : decode cX12_lying 25 = .ok (.ireturn, 1) := by decide +kernel
theorem dX12_stateOf_0 : decode cX12_stateOf 0 = .ok (.iconst 2, 1) := by decide +kernel
theorem dX12_stateOf_1 : decode cX12_stateOf 1 = .ok (.bipush 56, 2) := by decide +kernel
theorem dX12_stateOf_3 : decode cX12_stateOf 3 = .ok (.iload_n 0, 1) := by decide +kernel
theorem dX12_stateOf_4 : decode cX12_stateOf 4 = .ok (.imul, 1) := by decide +kernel
theorem dX12_stateOf_5 : decode cX12_stateOf 5 = .ok (.iload_n 1, 1) := by decide +kernel
theorem dX12_stateOf_6 : decode cX12_stateOf 6 = .ok (.iadd, 1) := by decide +kernel
theorem dX12_stateOf_7 : decode cX12_stateOf 7 = .ok (.imul, 1) := by decide +kernel
theorem dX12_stateOf_8 : decode cX12_stateOf 8 = .ok (.iload_n 2, 1) := by decide +kernel
theorem dX12_stateOf_9 : decode cX12_stateOf 9 = .ok (.iadd, 1) := by decide +kernel
theorem dX12_stateOf_10 : decode cX12_stateOf 10 = .ok (.ireturn, 1) := by decide +kernel
theorem dX12_standIn_0 : decode cX12_standIn 0 = .ok (.iload_n 1, 1) := by decide +kernel
theorem dX12_standIn_1 : decode cX12_standIn 1 = .ok (.ifCond .ne 12, 3) := by decide +kernel
theorem dX12_standIn_4 : decode cX12_standIn 4 = .ok (.iload_n 0, 1) := by decide +kernel
theorem dX12_standIn_5 : decode cX12_standIn 5 = .ok (.iconst 2, 1) := by decide +kernel
theorem dX12_standIn_6 : decode cX12_standIn 6 = .ok (.idiv, 1) := by decide +kernel
theorem dX12_standIn_7 : decode cX12_standIn 7 = .ok (.bipush 56, 2) := by decide +kernel
theorem dX12_standIn_9 : decode cX12_standIn 9 = .ok (.idiv, 1) := by decide +kernel
theorem dX12_standIn_10 : decode cX12_standIn 10 = .ok (.goto 9, 3) := by decide +kernel
theorem dX12_standIn_13 : decode cX12_standIn 13 = .ok (.iload_n 0, 1) := by decide +kernel
theorem dX12_standIn_14 : decode cX12_standIn 14 = .ok (.iconst 2, 1) := by decide +kernel
theorem dX12_standIn_15 : decode cX12_standIn 15 = .ok (.idiv, 1) := by decide +kernel
theorem dX12_standIn_16 : decode cX12_standIn 16 = .ok (.bipush 56, 2) := by decide +kernel
theorem dX12_standIn_18 : decode cX12_standIn 18 = .ok (.irem, 1) := by decide +kernel
theorem dX12_standIn_19 : decode cX12_standIn 19 = .ok (.ireturn, 1) := by decide +kernel
theorem dX12_lastIn_0 : decode cX12_lastIn 0 = .ok (.iload_n 0, 1) := by decide +kernel
theorem dX12_lastIn_1 : decode cX12_lastIn 1 = .ok (.iconst 2, 1) := by decide +kernel
theorem dX12_lastIn_2 : decode cX12_lastIn 2 = .ok (.irem, 1) := by decide +kernel
theorem dX12_lastIn_3 : decode cX12_lastIn 3 = .ok (.ireturn, 1) := by decide +kernel
theorem dX12_handsIn_0 : decode cX12_handsIn 0 = .ok (.aload_n 0, 1) := by decide +kernel
theorem dX12_handsIn_1 : decode cX12_handsIn 1 = .ok (.iload_n 1, 1) := by decide +kernel
theorem dX12_handsIn_2 : decode cX12_handsIn 2 = .ok (.iconst 0, 1) := by decide +kernel
theorem dX12_handsIn_3 : decode cX12_handsIn 3 = .ok (.invokestatic 181, 3) := by decide +kernel
theorem dX12_handsIn_6 : decode cX12_handsIn 6 = .ok (.invokevirtual 184, 3) := by decide +kernel
theorem dX12_handsIn_9 : decode cX12_handsIn 9 = .ok (.aload_n 0, 1) := by decide +kernel
theorem dX12_handsIn_10 : decode cX12_handsIn 10 = .ok (.iload_n 1, 1) := by decide +kernel
theorem dX12_handsIn_11 : decode cX12_handsIn 11 = .ok (.iconst 1, 1) := by decide +kernel
theorem dX12_handsIn_12 : decode cX12_handsIn 12 = .ok (.invokestatic 181, 3) := by decide +kernel
theorem dX12_handsIn_15 : decode cX12_handsIn 15 = .ok (.invokevirtual 184, 3) := by decide +kernel
theorem dX12_handsIn_18 : decode cX12_handsIn 18 = .ok (.iadd, 1) := by decide +kernel
theorem dX12_handsIn_19 : decode cX12_handsIn 19 = .ok (.ireturn, 1) := by decide +kernel
theorem dX12_turnIn_0 : decode cX12_turnIn 0 = .ok (.aload_n 0, 1) := by decide +kernel
theorem dX12_turnIn_1 : decode cX12_turnIn 1 = .ok (.iload_n 1, 1) := by decide +kernel
theorem dX12_turnIn_2 : decode cX12_turnIn 2 = .ok (.invokevirtual 187, 3) := by decide +kernel
theorem dX12_turnIn_5 : decode cX12_turnIn 5 = .ok (.ifCond .ne 5, 3) := by decide +kernel
theorem dX12_turnIn_8 : decode cX12_turnIn 8 = .ok (.iconst 2, 1) := by decide +kernel
theorem dX12_turnIn_9 : decode cX12_turnIn 9 = .ok (.ireturn, 1) := by decide +kernel
theorem dX12_turnIn_10 : decode cX12_turnIn 10 = .ok (.aload_n 0, 1) := by decide +kernel
theorem dX12_turnIn_11 : decode cX12_turnIn 11 = .ok (.iload_n 1, 1) := by decide +kernel
theorem dX12_turnIn_12 : decode cX12_turnIn 12 = .ok (.iconst 0, 1) := by decide +kernel
theorem dX12_turnIn_13 : decode cX12_turnIn 13 = .ok (.invokestatic 181, 3) := by decide +kernel
theorem dX12_turnIn_16 : decode cX12_turnIn 16 = .ok (.invokevirtual 170, 3) := by decide +kernel
theorem dX12_turnIn_19 : decode cX12_turnIn 19 = .ok (.istore_n 2, 1) := by decide +kernel
theorem dX12_turnIn_20 : decode cX12_turnIn 20 = .ok (.aload_n 0, 1) := by decide +kernel
theorem dX12_turnIn_21 : decode cX12_turnIn 21 = .ok (.iload_n 1, 1) := by decide +kernel
theorem dX12_turnIn_22 : decode cX12_turnIn 22 = .ok (.iconst 1, 1) := by decide +kernel
theorem dX12_turnIn_23 : decode cX12_turnIn 23 = .ok (.invokestatic 181, 3) := by decide +kernel
theorem dX12_turnIn_26 : decode cX12_turnIn 26 = .ok (.invokevirtual 170, 3) := by decide +kernel
theorem dX12_turnIn_29 : decode cX12_turnIn 29 = .ok (.istore_n 3, 1) := by decide +kernel
theorem dX12_turnIn_30 : decode cX12_turnIn 30 = .ok (.iload_n 2, 1) := by decide +kernel
theorem dX12_turnIn_31 : decode cX12_turnIn 31 = .ok (.iload_n 3, 1) := by decide +kernel
theorem dX12_turnIn_32 : decode cX12_turnIn 32 = .ok (.if_icmp .le 7, 3) := by decide +kernel
theorem dX12_turnIn_35 : decode cX12_turnIn 35 = .ok (.iconst 0, 1) := by decide +kernel
theorem dX12_turnIn_36 : decode cX12_turnIn 36 = .ok (.goto 18, 3) := by decide +kernel
theorem dX12_turnIn_39 : decode cX12_turnIn 39 = .ok (.iload_n 3, 1) := by decide +kernel
theorem dX12_turnIn_40 : decode cX12_turnIn 40 = .ok (.iload_n 2, 1) := by decide +kernel
theorem dX12_turnIn_41 : decode cX12_turnIn 41 = .ok (.if_icmp .le 7, 3) := by decide +kernel
theorem dX12_turnIn_44 : decode cX12_turnIn 44 = .ok (.iconst 1, 1) := by decide +kernel
theorem dX12_turnIn_45 : decode cX12_turnIn 45 = .ok (.goto 9, 3) := by decide +kernel
theorem dX12_turnIn_48 : decode cX12_turnIn 48 = .ok (.iconst 1, 1) := by decide +kernel
theorem dX12_turnIn_49 : decode cX12_turnIn 49 = .ok (.iload_n 1, 1) := by decide +kernel
theorem dX12_turnIn_50 : decode cX12_turnIn 50 = .ok (.invokestatic 190, 3) := by decide +kernel
theorem dX12_turnIn_53 : decode cX12_turnIn 53 = .ok (.isub, 1) := by decide +kernel
theorem dX12_turnIn_54 : decode cX12_turnIn 54 = .ok (.istore 4, 2) := by decide +kernel
theorem dX12_turnIn_56 : decode cX12_turnIn 56 = .ok (.aload_n 0, 1) := by decide +kernel
theorem dX12_turnIn_57 : decode cX12_turnIn 57 = .ok (.iload_n 1, 1) := by decide +kernel
theorem dX12_turnIn_58 : decode cX12_turnIn 58 = .ok (.iload 4, 2) := by decide +kernel
theorem dX12_turnIn_60 : decode cX12_turnIn 60 = .ok (.invokestatic 181, 3) := by decide +kernel
theorem dX12_turnIn_63 : decode cX12_turnIn 63 = .ok (.invokevirtual 184, 3) := by decide +kernel
theorem dX12_turnIn_66 : decode cX12_turnIn 66 = .ok (.ifCond .le 8, 3) := by decide +kernel
theorem dX12_turnIn_69 : decode cX12_turnIn 69 = .ok (.iload 4, 2) := by decide +kernel
theorem dX12_turnIn_71 : decode cX12_turnIn 71 = .ok (.goto 7, 3) := by decide +kernel
theorem dX12_turnIn_74 : decode cX12_turnIn 74 = .ok (.iconst 1, 1) := by decide +kernel
theorem dX12_turnIn_75 : decode cX12_turnIn 75 = .ok (.iload 4, 2) := by decide +kernel
theorem dX12_turnIn_77 : decode cX12_turnIn 77 = .ok (.isub, 1) := by decide +kernel
theorem dX12_turnIn_78 : decode cX12_turnIn 78 = .ok (.ireturn, 1) := by decide +kernel
theorem dX12_below_0 : decode cX12_below 0 = .ok (.iconst 0, 1) := by decide +kernel
theorem dX12_below_1 : decode cX12_below 1 = .ok (.istore_n 3, 1) := by decide +kernel
theorem dX12_below_2 : decode cX12_below 2 = .ok (.iconst 0, 1) := by decide +kernel
theorem dX12_below_3 : decode cX12_below 3 = .ok (.istore 4, 2) := by decide +kernel
theorem dX12_below_5 : decode cX12_below 5 = .ok (.iload 4, 2) := by decide +kernel
theorem dX12_below_7 : decode cX12_below 7 = .ok (.iload_n 2, 1) := by decide +kernel
theorem dX12_below_8 : decode cX12_below 8 = .ok (.if_icmp .ge 19, 3) := by decide +kernel
theorem dX12_below_11 : decode cX12_below 11 = .ok (.iload_n 3, 1) := by decide +kernel
theorem dX12_below_12 : decode cX12_below 12 = .ok (.aload_n 0, 1) := by decide +kernel
theorem dX12_below_13 : decode cX12_below 13 = .ok (.iload_n 1, 1) := by decide +kernel
theorem dX12_below_14 : decode cX12_below 14 = .ok (.iload 4, 2) := by decide +kernel
theorem dX12_below_16 : decode cX12_below 16 = .ok (.invokevirtual 177, 3) := by decide +kernel
theorem dX12_below_19 : decode cX12_below 19 = .ok (.iadd, 1) := by decide +kernel
theorem dX12_below_20 : decode cX12_below 20 = .ok (.istore_n 3, 1) := by decide +kernel
theorem dX12_below_21 : decode cX12_below 21 = .ok (.iinc 4 1, 3) := by decide +kernel
theorem dX12_below_24 : decode cX12_below 24 = .ok (.goto (-19), 3) := by decide +kernel
theorem dX12_below_27 : decode cX12_below 27 = .ok (.iload_n 3, 1) := by decide +kernel
theorem dX12_below_28 : decode cX12_below 28 = .ok (.ireturn, 1) := by decide +kernel
theorem dX12_pointsIn_0 : decode cX12_pointsIn 0 = .ok (.aload_n 0, 1) := by decide +kernel
theorem dX12_pointsIn_1 : decode cX12_pointsIn 1 = .ok (.iload_n 1, 1) := by decide +kernel
theorem dX12_pointsIn_2 : decode cX12_pointsIn 2 = .ok (.invokevirtual 170, 3) := by decide +kernel
theorem dX12_pointsIn_5 : decode cX12_pointsIn 5 = .ok (.istore_n 3, 1) := by decide +kernel
theorem dX12_pointsIn_6 : decode cX12_pointsIn 6 = .ok (.aload_n 0, 1) := by decide +kernel
theorem dX12_pointsIn_7 : decode cX12_pointsIn 7 = .ok (.iload_n 2, 1) := by decide +kernel
theorem dX12_pointsIn_8 : decode cX12_pointsIn 8 = .ok (.invokevirtual 170, 3) := by decide +kernel
