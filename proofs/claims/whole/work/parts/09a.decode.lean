theorem dX0_init_0 : decode cX0_init 0 = .ok (.aload_n 0, 1) := by decide +kernel
theorem dX0_init_1 : decode cX0_init 1 = .ok (.invokespecial 3, 3) := by decide +kernel
theorem dX0_init_4 : decode cX0_init 4 = .ok (.aload_n 0, 1) := by decide +kernel
theorem dX0_init_5 : decode cX0_init 5 = .ok (.iconst 5, 1) := by decide +kernel
theorem dX0_init_6 : decode cX0_init 6 = .ok (.newarray .int, 2) := by decide +kernel
theorem dX0_init_8 : decode cX0_init 8 = .ok (.putfield 9, 3) := by decide +kernel
theorem dX0_init_11 : decode cX0_init 11 = .ok (.aload_n 0, 1) := by decide +kernel
theorem dX0_init_12 : decode cX0_init 12 = .ok (.iconst 5, 1) := by decide +kernel
theorem dX0_init_13 : decode cX0_init 13 = .ok (.newarray .int, 2) := by decide +kernel
theorem dX0_init_15 : decode cX0_init 15 = .ok (.putfield 15, 3) := by decide +kernel
theorem dX0_init_18 : decode cX0_init 18 = .ok (.aload_n 0, 1) := by decide +kernel
theorem dX0_init_19 : decode cX0_init 19 = .ok (.bipush 7, 2) := by decide +kernel
theorem dX0_init_21 : decode cX0_init 21 = .ok (.newarray .int, 2) := by decide +kernel
theorem dX0_init_23 : decode cX0_init 23 = .ok (.putfield 18, 3) := by decide +kernel
theorem dX0_init_26 : decode cX0_init 26 = .ok (.aload_n 0, 1) := by decide +kernel
theorem dX0_init_27 : decode cX0_init 27 = .ok (.bipush 7, 2) := by decide +kernel
theorem dX0_init_29 : decode cX0_init 29 = .ok (.newarray .int, 2) := by decide +kernel
theorem dX0_init_31 : decode cX0_init 31 = .ok (.putfield 21, 3) := by decide +kernel
theorem dX0_init_34 : decode cX0_init 34 = .ok (.return_, 1) := by decide +kernel
theorem dX0_hasRoom_0 : decode cX0_hasRoom 0 = .ok (.aload_n 0, 1) := by decide +kernel
theorem dX0_hasRoom_1 : decode cX0_hasRoom 1 = .ok (.getfield 24, 3) := by decide +kernel
theorem dX0_hasRoom_4 : decode cX0_hasRoom 4 = .ok (.bipush 60, 2) := by decide +kernel
theorem dX0_hasRoom_6 : decode cX0_hasRoom 6 = .ok (.if_icmp .ge 7, 3) := by decide +kernel
theorem dX0_hasRoom_9 : decode cX0_hasRoom 9 = .ok (.iconst 1, 1) := by decide +kernel
theorem dX0_hasRoom_10 : decode cX0_hasRoom 10 = .ok (.goto 4, 3) := by decide +kernel
theorem dX0_hasRoom_13 : decode cX0_hasRoom 13 = .ok (.iconst 0, 1) := by decide +kernel
theorem dX0_hasRoom_14 : decode cX0_hasRoom 14 = .ok (.ireturn, 1) := by decide +kernel
theorem dX0_add_0 : decode cX0_add 0 = .ok (.iload_n 1, 1) := by decide +kernel
theorem dX0_add_1 : decode cX0_add 1 = .ok (.bipush 6, 2) := by decide +kernel
theorem dX0_add_3 : decode cX0_add 3 = .ok (.isub, 1) := by decide +kernel
theorem dX0_add_4 : decode cX0_add 4 = .ok (.istore_n 3, 1) := by decide +kernel
theorem dX0_add_5 : decode cX0_add 5 = .ok (.iload_n 3, 1) := by decide +kernel
theorem dX0_add_6 : decode cX0_add 6 = .ok (.ifCond .lt 46, 3) := by decide +kernel
theorem dX0_add_9 : decode cX0_add 9 = .ok (.iload_n 3, 1) := by decide +kernel
theorem dX0_add_10 : decode cX0_add 10 = .ok (.iconst 5, 1) := by decide +kernel
theorem dX0_add_11 : decode cX0_add 11 = .ok (.if_icmp .ge 41, 3) := by decide +kernel
theorem dX0_add_14 : decode cX0_add 14 = .ok (.aload_n 0, 1) := by decide +kernel
theorem dX0_add_15 : decode cX0_add 15 = .ok (.getfield 9, 3) := by decide +kernel
theorem dX0_add_18 : decode cX0_add 18 = .ok (.iload_n 3, 1) := by decide +kernel
theorem dX0_add_19 : decode cX0_add 19 = .ok (.dup2, 1) := by decide +kernel
theorem dX0_add_20 : decode cX0_add 20 = .ok (.iaload, 1) := by decide +kernel
theorem dX0_add_21 : decode cX0_add 21 = .ok (.iconst 1, 1) := by decide +kernel
theorem dX0_add_22 : decode cX0_add 22 = .ok (.iadd, 1) := by decide +kernel
theorem dX0_add_23 : decode cX0_add 23 = .ok (.iastore, 1) := by decide +kernel
theorem dX0_add_24 : decode cX0_add 24 = .ok (.aload_n 0, 1) := by decide +kernel
theorem dX0_add_25 : decode cX0_add 25 = .ok (.getfield 15, 3) := by decide +kernel
theorem dX0_add_28 : decode cX0_add 28 = .ok (.iload_n 3, 1) := by decide +kernel
theorem dX0_add_29 : decode cX0_add 29 = .ok (.dup2, 1) := by decide +kernel
theorem dX0_add_30 : decode cX0_add 30 = .ok (.iaload, 1) := by decide +kernel
theorem dX0_add_31 : decode cX0_add 31 = .ok (.iload_n 2, 1) := by decide +kernel
theorem dX0_add_32 : decode cX0_add 32 = .ok (.ifCond .eq 7, 3) := by decide +kernel
theorem dX0_add_35 : decode cX0_add 35 = .ok (.iconst 1, 1) := by decide +kernel
theorem dX0_add_36 : decode cX0_add 36 = .ok (.goto 4, 3) := by decide +kernel
theorem dX0_add_39 : decode cX0_add 39 = .ok (.iconst 0, 1) := by decide +kernel
theorem dX0_add_40 : decode cX0_add 40 = .ok (.iadd, 1) := by decide +kernel
theorem dX0_add_41 : decode cX0_add 41 = .ok (.iastore, 1) := by decide +kernel
theorem dX0_add_42 : decode cX0_add 42 = .ok (.aload_n 0, 1) := by decide +kernel
theorem dX0_add_43 : decode cX0_add 43 = .ok (.dup, 1) := by decide +kernel
theorem dX0_add_44 : decode cX0_add 44 = .ok (.getfield 24, 3) := by decide +kernel
theorem dX0_add_47 : decode cX0_add 47 = .ok (.iconst 1, 1) := by decide +kernel
theorem dX0_add_48 : decode cX0_add 48 = .ok (.iadd, 1) := by decide +kernel
theorem dX0_add_49 : decode cX0_add 49 = .ok (.putfield 24, 3) := by decide +kernel
theorem dX0_add_52 : decode cX0_add 52 = .ok (.aload_n 0, 1) := by decide +kernel
theorem dX0_add_53 : decode cX0_add 53 = .ok (.getfield 24, 3) := by decide +kernel
theorem dX0_add_56 : decode cX0_add 56 = .ok (.ireturn, 1) := by decide +kernel
theorem dX0_copyFrom_0 : decode cX0_copyFrom 0 = .ok (.aload_n 1, 1) := by decide +kernel
theorem dX0_copyFrom_1 : decode cX0_copyFrom 1 = .ok (.getfield 9, 3) := by decide +kernel
theorem dX0_copyFrom_4 : decode cX0_copyFrom 4 = .ok (.iconst 0, 1) := by decide +kernel
theorem dX0_copyFrom_5 : decode cX0_copyFrom 5 = .ok (.aload_n 0, 1) := by decide +kernel
theorem dX0_copyFrom_6 : decode cX0_copyFrom 6 = .ok (.getfield 9, 3) := by decide +kernel
theorem dX0_copyFrom_9 : decode cX0_copyFrom 9 = .ok (.iconst 0, 1) := by decide +kernel
theorem dX0_copyFrom_10 : decode cX0_copyFrom 10 = .ok (.iconst 5, 1) := by decide +kernel
theorem dX0_copyFrom_11 : decode cX0_copyFrom 11 = .ok (.invokestatic 28, 3) := by decide +kernel
theorem dX0_copyFrom_14 : decode cX0_copyFrom 14 = .ok (.aload_n 1, 1) := by decide +kernel
theorem dX0_copyFrom_15 : decode cX0_copyFrom 15 = .ok (.getfield 15, 3) := by decide +kernel
theorem dX0_copyFrom_18 : decode cX0_copyFrom 18 = .ok (.iconst 0, 1) := by decide +kernel
theorem dX0_copyFrom_19 : decode cX0_copyFrom 19 = .ok (.aload_n 0, 1) := by decide +kernel
theorem dX0_copyFrom_20 : decode cX0_copyFrom 20 = .ok (.getfield 15, 3) := by decide +kernel
theorem dX0_copyFrom_23 : decode cX0_copyFrom 23 = .ok (.iconst 0, 1) := by decide +kernel
theorem dX0_copyFrom_24 : decode cX0_copyFrom 24 = .ok (.iconst 5, 1) := by decide +kernel
theorem dX0_copyFrom_25 : decode cX0_copyFrom 25 = .ok (.invokestatic 28, 3) := by decide +kernel
theorem dX0_copyFrom_28 : decode cX0_copyFrom 28 = .ok (.aload_n 0, 1) := by decide +kernel
theorem dX0_copyFrom_29 : decode cX0_copyFrom 29 = .ok (.aload_n 1, 1) := by decide +kernel
theorem dX0_copyFrom_30 : decode cX0_copyFrom 30 = .ok (.getfield 24, 3) := by decide +kernel
theorem dX0_copyFrom_33 : decode cX0_copyFrom 33 = .ok (.putfield 24, 3) := by decide +kernel
theorem dX0_copyFrom_36 : decode cX0_copyFrom 36 = .ok (.return_, 1) := by decide +kernel
theorem dX0_tell_0 : decode cX0_tell 0 = .ok (.iload_n 1, 1) := by decide +kernel
theorem dX0_tell_1 : decode cX0_tell 1 = .ok (.ifCond .ne 8, 3) := by decide +kernel
theorem dX0_tell_4 : decode cX0_tell 4 = .ok (.aload_n 0, 1) := by decide +kernel
theorem dX0_tell_5 : decode cX0_tell 5 = .ok (.getfield 24, 3) := by decide +kernel
theorem dX0_tell_8 : decode cX0_tell 8 = .ok (.ireturn, 1) := by decide +kernel
theorem dX0_tell_9 : decode cX0_tell 9 = .ok (.iload_n 1, 1) := by decide +kernel
theorem dX0_tell_10 : decode cX0_tell 10 = .ok (.iconst 1, 1) := by decide +kernel
theorem dX0_tell_11 : decode cX0_tell 11 = .ok (.if_icmp .ne 29, 3) := by decide +kernel
theorem dX0_tell_14 : decode cX0_tell 14 = .ok (.iconst 0, 1) := by decide +kernel
theorem dX0_tell_15 : decode cX0_tell 15 = .ok (.istore_n 2, 1) := by decide +kernel
theorem dX0_tell_16 : decode cX0_tell 16 = .ok (.iconst 0, 1) := by decide +kernel
theorem dX0_tell_17 : decode cX0_tell 17 = .ok (.istore_n 3, 1) := by decide +kernel
theorem dX0_tell_18 : decode cX0_tell 18 = .ok (.iload_n 3, 1) := by decide +kernel
theorem dX0_tell_19 : decode cX0_tell 19 = .ok (.iconst 5, 1) := by decide +kernel
theorem dX0_tell_20 : decode cX0_tell 20 = .ok (.if_icmp .ge 18, 3) := by decide +kernel
theorem dX0_tell_23 : decode cX0_tell 23 = .ok (.iload_n 2, 1) := by decide +kernel
theorem dX0_tell_24 : decode cX0_tell 24 = .ok (.aload_n 0, 1) := by decide +kernel
theorem dX0_tell_25 : decode cX0_tell 25 = .ok (.getfield 15, 3) := by decide +kernel
theorem dX0_tell_28 : decode cX0_tell 28 = .ok (.iload_n 3, 1) := by decide +kernel
theorem dX0_tell_29 : decode cX0_tell 29 = .ok (.iaload, 1) := by decide +kernel
theorem dX0_tell_30 : decode cX0_tell 30 = .ok (.iadd, 1) := by decide +kernel
theorem dX0_tell_31 : decode cX0_tell 31 = .ok (.istore_n 2, 1) := by decide +kernel
theorem dX0_tell_32 : decode cX0_tell 32 = .ok (.iinc 3 1, 3) := by decide +kernel
theorem dX0_tell_35 : decode cX0_tell 35 = .ok (.goto (-17), 3) := by decide +kernel
theorem dX0_tell_38 : decode cX0_tell 38 = .ok (.iload_n 2, 1) := by decide +kernel
theorem dX0_tell_39 : decode cX0_tell 39 = .ok (.ireturn, 1) := by decide +kernel
theorem dX0_tell_40 : decode cX0_tell 40 = .ok (.iload_n 1, 1) := by decide +kernel
theorem dX0_tell_41 : decode cX0_tell 41 = .ok (.bipush 16, 2) := by decide +kernel
theorem dX0_tell_43 : decode cX0_tell 43 = .ok (.if_icmp .lt 24, 3) := by decide +kernel
theorem dX0_tell_46 : decode cX0_tell 46 = .ok (.iload_n 1, 1) := by decide +kernel
theorem dX0_tell_47 : decode cX0_tell 47 = .ok (.bipush 20, 2) := by decide +kernel
theorem dX0_tell_49 : decode cX0_tell 49 = .ok (.if_icmp .gt 18, 3) := by decide +kernel
theorem dX0_tell_52 : decode cX0_tell 52 = .ok (.aload_n 0, 1) := by decide +kernel
theorem dX0_tell_53 : decode cX0_tell 53 = .ok (.getfield 9, 3) := by decide +kernel
theorem dX0_tell_56 : decode cX0_tell 56 = .ok (.iload_n 1, 1) := by decide +kernel
theorem dX0_tell_57 : decode cX0_tell 57 = .ok (.bipush 10, 2) := by decide +kernel
theorem dX0_tell_59 : decode cX0_tell 59 = .ok (.isub, 1) := by decide +kernel
theorem dX0_tell_60 : decode cX0_tell 60 = .ok (.bipush 6, 2) := by decide +kernel
theorem dX0_tell_62 : decode cX0_tell 62 = .ok (.isub, 1) := by decide +kernel
theorem dX0_tell_63 : decode cX0_tell 63 = .ok (.invokestatic 34, 3) := by decide +kernel
theorem dX0_tell_66 : decode cX0_tell 66 = .ok (.ireturn, 1) := by decide +kernel
theorem dX0_tell_67 : decode cX0_tell 67 = .ok (.iload_n 1, 1) := by decide +kernel
theorem dX0_tell_68 : decode cX0_tell 68 = .ok (.bipush 26, 2) := by decide +kernel
theorem dX0_tell_70 : decode cX0_tell 70 = .ok (.if_icmp .lt 24, 3) := by decide +kernel
theorem dX0_tell_73 : decode cX0_tell 73 = .ok (.iload_n 1, 1) := by decide +kernel
theorem dX0_tell_74 : decode cX0_tell 74 = .ok (.bipush 30, 2) := by decide +kernel
theorem dX0_tell_76 : decode cX0_tell 76 = .ok (.if_icmp .gt 18, 3) := by decide +kernel
theorem dX0_tell_79 : decode cX0_tell 79 = .ok (.aload_n 0, 1) := by decide +kernel
theorem dX0_tell_80 : decode cX0_tell 80 = .ok (.getfield 15, 3) := by decide +kernel
theorem dX0_tell_83 : decode cX0_tell 83 = .ok (.iload_n 1, 1) := by decide +kernel
theorem dX0_tell_84 : decode cX0_tell 84 = .ok (.bipush 20, 2) := by decide +kernel
theorem dX0_tell_86 : decode cX0_tell 86 = .ok (.isub, 1) := by decide +kernel
theorem dX0_tell_87 : decode cX0_tell 87 = .ok (.bipush 6, 2) := by decide +kernel
theorem dX0_tell_89 : decode cX0_tell 89 = .ok (.isub, 1) := by decide +kernel
theorem dX0_tell_90 : decode cX0_tell 90 = .ok (.invokestatic 34, 3) := by decide +kernel
theorem dX0_tell_93 : decode cX0_tell 93 = .ok (.ireturn, 1) := by decide +kernel
theorem dX0_tell_94 : decode cX0_tell 94 = .ok (.iconst (-1), 1) := by decide +kernel
theorem dX0_tell_95 : decode cX0_tell 95 = .ok (.ireturn, 1) := by decide +kernel
theorem dX0_better_0 : decode cX0_better 0 = .ok (.aload_n 0, 1) := by decide +kernel
theorem dX0_better_1 : decode cX0_better 1 = .ok (.aload_n 0, 1) := by decide +kernel
theorem dX0_better_2 : decode cX0_better 2 = .ok (.getfield 18, 3) := by decide +kernel
theorem dX0_better_5 : decode cX0_better 5 = .ok (.iload_n 1, 1) := by decide +kernel
theorem dX0_better_6 : decode cX0_better 6 = .ok (.iload_n 2, 1) := by decide +kernel
theorem dX0_better_7 : decode cX0_better 7 = .ok (.invokevirtual 38, 3) := by decide +kernel
theorem dX0_better_10 : decode cX0_better 10 = .ok (.aload_n 0, 1) := by decide +kernel
theorem dX0_better_11 : decode cX0_better 11 = .ok (.aload_n 0, 1) := by decide +kernel
theorem dX0_better_12 : decode cX0_better 12 = .ok (.getfield 21, 3) := by decide +kernel
theorem dX0_better_15 : decode cX0_better 15 = .ok (.iload_n 3, 1) := by decide +kernel
theorem dX0_better_16 : decode cX0_better 16 = .ok (.iload 4, 2) := by decide +kernel
theorem dX0_better_18 : decode cX0_better 18 = .ok (.invokevirtual 38, 3) := by decide +kernel
theorem dX0_better_21 : decode cX0_better 21 = .ok (.bipush 6, 2) := by decide +kernel
theorem dX0_better_23 : decode cX0_better 23 = .ok (.istore 5, 2) := by decide +kernel
theorem dX0_better_25 : decode cX0_better 25 = .ok (.iload 5, 2) := by decide +kernel
theorem dX0_better_27 : decode cX0_better 27 = .ok (.ifCond .lt 49, 3) := by decide +kernel
theorem dX0_better_30 : decode cX0_better 30 = .ok (.aload_n 0, 1) := by decide +kernel
theorem dX0_better_31 : decode cX0_better 31 = .ok (.getfield 18, 3) := by decide +kernel
theorem dX0_better_34 : decode cX0_better 34 = .ok (.iload 5, 2) := by decide +kernel
theorem dX0_better_36 : decode cX0_better 36 = .ok (.iaload, 1) := by decide +kernel
theorem dX0_better_37 : decode cX0_better 37 = .ok (.aload_n 0, 1) := by decide +kernel
theorem dX0_better_38 : decode cX0_better 38 = .ok (.getfield 21, 3) := by decide +kernel
theorem dX0_better_41 : decode cX0_better 41 = .ok (.iload 5, 2) := by decide +kernel
theorem dX0_better_43 : decode cX0_better 43 = .ok (.iaload, 1) := by decide +kernel
theorem dX0_better_44 : decode cX0_better 44 = .ok (.if_icmp .eq 26, 3) := by decide +kernel
theorem dX0_better_47 : decode cX0_better 47 = .ok (.aload_n 0, 1) := by decide +kernel
theorem dX0_better_48 : decode cX0_better 48 = .ok (.getfield 18, 3) := by decide +kernel
theorem dX0_better_51 : decode cX0_better 51 = .ok (.iload 5, 2) := by decide +kernel
theorem dX0_better_53 : decode cX0_better 53 = .ok (.iaload, 1) := by decide +kernel
theorem dX0_better_54 : decode cX0_better 54 = .ok (.aload_n 0, 1) := by decide +kernel
theorem dX0_better_55 : decode cX0_better 55 = .ok (.getfield 21, 3) := by decide +kernel
theorem dX0_better_58 : decode cX0_better 58 = .ok (.iload 5, 2) := by decide +kernel
theorem dX0_better_60 : decode cX0_better 60 = .ok (.iaload, 1) := by decide +kernel
theorem dX0_better_61 : decode cX0_better 61 = .ok (.if_icmp .le 7, 3) := by decide +kernel
theorem dX0_better_64 : decode cX0_better 64 = .ok (.iconst 1, 1) := by decide +kernel
theorem dX0_better_65 : decode cX0_better 65 = .ok (.goto 4, 3) := by decide +kernel
theorem dX0_better_68 : decode cX0_better 68 = .ok (.iconst 2, 1) := by decide +kernel
theorem dX0_better_69 : decode cX0_better 69 = .ok (.ireturn, 1) := by decide +kernel
theorem dX0_better_70 : decode cX0_better 70 = .ok (.iinc 5 (-1), 3) := by decide +kernel
theorem dX0_better_73 : decode cX0_better 73 = .ok (.goto (-48), 3) := by decide +kernel
theorem dX0_better_76 : decode cX0_better 76 = .ok (.iconst 0, 1) := by decide +kernel
theorem dX0_better_77 : decode cX0_better 77 = .ok (.ireturn, 1) := by decide +kernel
theorem dX0_multiplyAll_0 : decode cX0_multiplyAll 0 = .ok (.aload_n 1, 1) := by decide +kernel
theorem dX0_multiplyAll_1 : decode cX0_multiplyAll 1 = .ok (.iconst 0, 1) := by decide +kernel
theorem dX0_multiplyAll_2 : decode cX0_multiplyAll 2 = .ok (.invokestatic 42, 3) := by decide +kernel
theorem dX0_multiplyAll_5 : decode cX0_multiplyAll 5 = .ok (.aload_n 1, 1) := by decide +kernel
theorem dX0_multiplyAll_6 : decode cX0_multiplyAll 6 = .ok (.arraylength, 1) := by decide +kernel
theorem dX0_multiplyAll_7 : decode cX0_multiplyAll 7 = .ok (.ifCond .le 7, 3) := by decide +kernel
theorem dX0_multiplyAll_10 : decode cX0_multiplyAll 10 = .ok (.aload_n 1, 1) := by decide +kernel
theorem dX0_multiplyAll_11 : decode cX0_multiplyAll 11 = .ok (.iconst 0, 1) := by decide +kernel
theorem dX0_multiplyAll_12 : decode cX0_multiplyAll 12 = .ok (.iconst 1, 1) := by decide +kernel
theorem dX0_multiplyAll_13 : decode cX0_multiplyAll 13 = .ok (.iastore, 1) := by decide +kernel
theorem dX0_multiplyAll_14 : decode cX0_multiplyAll 14 = .ok (.iconst 0, 1) := by decide +kernel
theorem dX0_multiplyAll_15 : decode cX0_multiplyAll 15 = .ok (.istore 4, 2) := by decide +kernel
theorem dX0_multiplyAll_17 : decode cX0_multiplyAll 17 = .ok (.iload 4, 2) := by decide +kernel
theorem dX0_multiplyAll_19 : decode cX0_multiplyAll 19 = .ok (.iconst 5, 1) := by decide +kernel
theorem dX0_multiplyAll_20 : decode cX0_multiplyAll 20 = .ok (.if_icmp .ge 58, 3) := by decide +kernel
theorem dX0_multiplyAll_23 : decode cX0_multiplyAll 23 = .ok (.iconst 0, 1) := by decide +kernel
theorem dX0_multiplyAll_24 : decode cX0_multiplyAll 24 = .ok (.iload_n 2, 1) := by decide +kernel
theorem dX0_multiplyAll_25 : decode cX0_multiplyAll 25 = .ok (.iload 4, 2) := by decide +kernel
theorem dX0_multiplyAll_27 : decode cX0_multiplyAll 27 = .ok (.iload_n 3, 1) := by decide +kernel
theorem dX0_multiplyAll_28 : decode cX0_multiplyAll 28 = .ok (.imul, 1) := by decide +kernel
theorem dX0_multiplyAll_29 : decode cX0_multiplyAll 29 = .ok (.isub, 1) := by decide +kernel
theorem dX0_multiplyAll_30 : decode cX0_multiplyAll 30 = .ok (.invokestatic 48, 3) := by decide +kernel
theorem dX0_multiplyAll_33 : decode cX0_multiplyAll 33 = .ok (.istore 5, 2) := by decide +kernel
theorem dX0_multiplyAll_35 : decode cX0_multiplyAll 35 = .ok (.aload_n 1, 1) := by decide +kernel
theorem dX0_multiplyAll_36 : decode cX0_multiplyAll 36 = .ok (.iload 5, 2) := by decide +kernel
theorem dX0_multiplyAll_38 : decode cX0_multiplyAll 38 = .ok (.aload_n 0, 1) := by decide +kernel
theorem dX0_multiplyAll_39 : decode cX0_multiplyAll 39 = .ok (.getfield 15, 3) := by decide +kernel
theorem dX0_multiplyAll_42 : decode cX0_multiplyAll 42 = .ok (.iload 4, 2) := by decide +kernel
theorem dX0_multiplyAll_44 : decode cX0_multiplyAll 44 = .ok (.iaload, 1) := by decide +kernel
theorem dX0_multiplyAll_45 : decode cX0_multiplyAll 45 = .ok (.invokestatic 54, 3) := by decide +kernel
theorem dX0_multiplyAll_48 : decode cX0_multiplyAll 48 = .ok (.aload_n 1, 1) := by decide +kernel
theorem dX0_multiplyAll_49 : decode cX0_multiplyAll 49 = .ok (.bipush 10, 2) := by decide +kernel
theorem dX0_multiplyAll_51 : decode cX0_multiplyAll 51 = .ok (.iload 5, 2) := by decide +kernel
theorem dX0_multiplyAll_53 : decode cX0_multiplyAll 53 = .ok (.isub, 1) := by decide +kernel
theorem dX0_multiplyAll_54 : decode cX0_multiplyAll 54 = .ok (.aload_n 0, 1) := by decide +kernel
theorem dX0_multiplyAll_55 : decode cX0_multiplyAll 55 = .ok (.getfield 9, 3) := by decide +kernel
theorem dX0_multiplyAll_58 : decode cX0_multiplyAll 58 = .ok (.iload 4, 2) := by decide +kernel
theorem dX0_multiplyAll_60 : decode cX0_multiplyAll 60 = .ok (.iaload, 1) := by decide +kernel
theorem dX0_multiplyAll_61 : decode cX0_multiplyAll 61 = .ok (.aload_n 0, 1) := by decide +kernel
theorem dX0_multiplyAll_62 : decode cX0_multiplyAll 62 = .ok (.getfield 15, 3) := by decide +kernel
theorem dX0_multiplyAll_65 : decode cX0_multiplyAll 65 = .ok (.iload 4, 2) := by decide +kernel
theorem dX0_multiplyAll_67 : decode cX0_multiplyAll 67 = .ok (.iaload, 1) := by decide +kernel
theorem dX0_multiplyAll_68 : decode cX0_multiplyAll 68 = .ok (.isub, 1) := by decide +kernel
theorem dX0_multiplyAll_69 : decode cX0_multiplyAll 69 = .ok (.invokestatic 54, 3) := by decide +kernel
theorem dX0_multiplyAll_72 : decode cX0_multiplyAll 72 = .ok (.iinc 4 1, 3) := by decide +kernel
theorem dX0_multiplyAll_75 : decode cX0_multiplyAll 75 = .ok (.goto (-58), 3) := by decide +kernel
theorem dX0_multiplyAll_78 : decode cX0_multiplyAll 78 = .ok (.return_, 1) := by decide +kernel
theorem dX0_multiply_0 : decode cX0_multiply 0 = .ok (.iconst 0, 1) := by decide +kernel
theorem dX0_multiply_1 : decode cX0_multiply 1 = .ok (.istore_n 3, 1) := by decide +kernel
theorem dX0_multiply_2 : decode cX0_multiply 2 = .ok (.iload_n 3, 1) := by decide +kernel
theorem dX0_multiply_3 : decode cX0_multiply 3 = .ok (.iload_n 2, 1) := by decide +kernel
theorem dX0_multiply_4 : decode cX0_multiply 4 = .ok (.if_icmp .ge 60, 3) := by decide +kernel
theorem dX0_multiply_7 : decode cX0_multiply 7 = .ok (.lconst 0, 1) := by decide +kernel
theorem dX0_multiply_8 : decode cX0_multiply 8 = .ok (.lstore 4, 2) := by decide +kernel
theorem dX0_multiply_10 : decode cX0_multiply 10 = .ok (.iconst 0, 1) := by decide +kernel
theorem dX0_multiply_11 : decode cX0_multiply 11 = .ok (.istore 6, 2) := by decide +kernel
theorem dX0_multiply_13 : decode cX0_multiply 13 = .ok (.iload 6, 2) := by decide +kernel
theorem dX0_multiply_15 : decode cX0_multiply 15 = .ok (.aload_n 0, 1) := by decide +kernel
theorem dX0_multiply_16 : decode cX0_multiply 16 = .ok (.arraylength, 1) := by decide +kernel
theorem dX0_multiply_17 : decode cX0_multiply 17 = .ok (.if_icmp .ge 41, 3) := by decide +kernel
theorem dX0_multiply_20 : decode cX0_multiply 20 = .ok (.lload 4, 2) := by decide +kernel
theorem dX0_multiply_22 : decode cX0_multiply 22 = .ok (.aload_n 0, 1) := by decide +kernel
theorem dX0_multiply_23 : decode cX0_multiply 23 = .ok (.iload 6, 2) := by decide +kernel
theorem dX0_multiply_25 : decode cX0_multiply 25 = .ok (.iaload, 1) := by decide +kernel
theorem dX0_multiply_26 : decode cX0_multiply 26 = .ok (.i2l, 1) := by decide +kernel
theorem dX0_multiply_27 : decode cX0_multiply 27 = .ok (.iload_n 1, 1) := by decide +kernel
theorem dX0_multiply_28 : decode cX0_multiply 28 = .ok (.i2l, 1) := by decide +kernel
theorem dX0_multiply_29 : decode cX0_multiply 29 = .ok (.lmul, 1) := by decide +kernel
theorem dX0_multiply_30 : decode cX0_multiply 30 = .ok (.ladd, 1) := by decide +kernel
theorem dX0_multiply_31 : decode cX0_multiply 31 = .ok (.lstore 4, 2) := by decide +kernel
theorem dX0_multiply_33 : decode cX0_multiply 33 = .ok (.aload_n 0, 1) := by decide +kernel
theorem dX0_multiply_34 : decode cX0_multiply 34 = .ok (.iload 6, 2) := by decide +kernel
theorem dX0_multiply_36 : decode cX0_multiply 36 = .ok (.lload 4, 2) := by decide +kernel
theorem dX0_multiply_38 : decode cX0_multiply 38 = .ok (.ldc2_w 57, 3) := by decide +kernel
theorem dX0_multiply_41 : decode cX0_multiply 41 = .ok (.lrem, 1) := by decide +kernel
theorem dX0_multiply_42 : decode cX0_multiply 42 = .ok (.l2i, 1) := by decide +kernel
theorem dX0_multiply_43 : decode cX0_multiply 43 = .ok (.iastore, 1) := by decide +kernel
theorem dX0_multiply_44 : decode cX0_multiply 44 = .ok (.lload 4, 2) := by decide +kernel
theorem dX0_multiply_46 : decode cX0_multiply 46 = .ok (.ldc2_w 57, 3) := by decide +kernel
theorem dX0_multiply_49 : decode cX0_multiply 49 = .ok (.ldiv, 1) := by decide +kernel
theorem dX0_multiply_50 : decode cX0_multiply 50 = .ok (.lstore 4, 2) := by decide +kernel
theorem dX0_multiply_52 : decode cX0_multiply 52 = .ok (.iinc 6 1, 3) := by decide +kernel
theorem dX0_multiply_55 : decode cX0_multiply 55 = .ok (.goto (-42), 3) := by decide +kernel
theorem dX0_multiply_58 : decode cX0_multiply 58 = .ok (.iinc 3 1, 3) := by decide +kernel
theorem dX0_multiply_61 : decode cX0_multiply 61 = .ok (.goto (-59), 3) := by decide +kernel
theorem dX0_multiply_64 : decode cX0_multiply 64 = .ok (.return_, 1) := by decide +kernel
theorem dX1_init_0 : decode cX1_init 0 = .ok (.aload_n 0, 1) := by decide +kernel
theorem dX1_init_1 : decode cX1_init 1 = .ok (.invokespecial 3, 3) := by decide +kernel
theorem dX1_init_4 : decode cX1_init 4 = .ok (.aload_n 0, 1) := by decide +kernel
theorem dX1_init_5 : decode cX1_init 5 = .ok (.new 9, 3) := by decide +kernel
theorem dX1_init_8 : decode cX1_init 8 = .ok (.dup, 1) := by decide +kernel
theorem dX1_init_9 : decode cX1_init 9 = .ok (.invokespecial 11, 3) := by decide +kernel
theorem dX1_init_12 : decode cX1_init 12 = .ok (.putfield 12, 3) := by decide +kernel
theorem dX1_init_15 : decode cX1_init 15 = .ok (.aload_n 0, 1) := by decide +kernel
theorem dX1_init_16 : decode cX1_init 16 = .ok (.sipush 240, 3) := by decide +kernel
theorem dX1_init_19 : decode cX1_init 19 = .ok (.newarray .byte, 2) := by decide +kernel
theorem dX1_init_21 : decode cX1_init 21 = .ok (.putfield 18, 3) := by decide +kernel
theorem dX1_init_24 : decode cX1_init 24 = .ok (.return_, 1) := by decide +kernel
theorem dX1_readText_0 : decode cX1_readText 0 = .ok (.aload_n 0, 1) := by decide +kernel
theorem dX1_readText_1 : decode cX1_readText 1 = .ok (.iconst 0, 1) := by decide +kernel
theorem dX1_readText_2 : decode cX1_readText 2 = .ok (.iload_n 2, 1) := by decide +kernel
theorem dX1_readText_3 : decode cX1_readText 3 = .ok (.aload_n 1, 1) := by decide +kernel
theorem dX1_readText_4 : decode cX1_readText 4 = .ok (.arraylength, 1) := by decide +kernel
theorem dX1_readText_5 : decode cX1_readText 5 = .ok (.sipush 240, 3) := by decide +kernel
theorem dX1_readText_8 : decode cX1_readText 8 = .ok (.invokestatic 22, 3) := by decide +kernel
theorem dX1_readText_11 : decode cX1_readText 11 = .ok (.invokestatic 22, 3) := by decide +kernel
theorem dX1_readText_14 : decode cX1_readText 14 = .ok (.invokestatic 28, 3) := by decide +kernel
theorem dX1_readText_17 : decode cX1_readText 17 = .ok (.putfield 31, 3) := by decide +kernel
theorem dX1_readText_20 : decode cX1_readText 20 = .ok (.aload_n 1, 1) := by decide +kernel
theorem dX1_readText_21 : decode cX1_readText 21 = .ok (.iconst 0, 1) := by decide +kernel
theorem dX1_readText_22 : decode cX1_readText 22 = .ok (.aload_n 0, 1) := by decide +kernel
theorem dX1_readText_23 : decode cX1_readText 23 = .ok (.getfield 18, 3) := by decide +kernel
theorem dX1_readText_26 : decode cX1_readText 26 = .ok (.iconst 0, 1) := by decide +kernel
theorem dX1_readText_27 : decode cX1_readText 27 = .ok (.aload_n 0, 1) := by decide +kernel
theorem dX1_readText_28 : decode cX1_readText 28 = .ok (.getfield 31, 3) := by decide +kernel
theorem dX1_readText_31 : decode cX1_readText 31 = .ok (.invokestatic 35, 3) := by decide +kernel
theorem dX1_readText_34 : decode cX1_readText 34 = .ok (.aload_n 0, 1) := by decide +kernel
theorem dX1_readText_35 : decode cX1_readText 35 = .ok (.iconst 0, 1) := by decide +kernel
theorem dX1_readText_36 : decode cX1_readText 36 = .ok (.putfield 41, 3) := by decide +kernel
theorem dX1_readText_39 : decode cX1_readText 39 = .ok (.aload_n 0, 1) := by decide +kernel
theorem dX1_readText_40 : decode cX1_readText 40 = .ok (.iconst 0, 1) := by decide +kernel
theorem dX1_readText_41 : decode cX1_readText 41 = .ok (.putfield 44, 3) := by decide +kernel
theorem dX1_readText_44 : decode cX1_readText 44 = .ok (.aload_n 0, 1) := by decide +kernel
theorem dX1_readText_45 : decode cX1_readText 45 = .ok (.getfield 12, 3) := by decide +kernel
theorem dX1_readText_48 : decode cX1_readText 48 = .ok (.invokevirtual 47, 3) := by decide +kernel
theorem dX1_readText_51 : decode cX1_readText 51 = .ok (.iconst 0, 1) := by decide +kernel
theorem dX1_readText_52 : decode cX1_readText 52 = .ok (.istore 4, 2) := by decide +kernel
theorem dX1_readText_54 : decode cX1_readText 54 = .ok (.iload 4, 2) := by decide +kernel
theorem dX1_readText_56 : decode cX1_readText 56 = .ok (.bipush 16, 2) := by decide +kernel
theorem dX1_readText_58 : decode cX1_readText 58 = .ok (.if_icmp .gt 55, 3) := by decide +kernel
theorem dX1_readText_61 : decode cX1_readText 61 = .ok (.aload_n 0, 1) := by decide +kernel
theorem dX1_readText_62 : decode cX1_readText 62 = .ok (.iload_n 3, 1) := by decide +kernel
theorem dX1_readText_63 : decode cX1_readText 63 = .ok (.invokevirtual 50, 3) := by decide +kernel
theorem dX1_readText_66 : decode cX1_readText 66 = .ok (.ifCond .ne 8, 3) := by decide +kernel
theorem dX1_readText_69 : decode cX1_readText 69 = .ok (.aload_n 0, 1) := by decide +kernel
theorem dX1_readText_70 : decode cX1_readText 70 = .ok (.getfield 44, 3) := by decide +kernel
theorem dX1_readText_73 : decode cX1_readText 73 = .ok (.ireturn, 1) := by decide +kernel
theorem dX1_readText_74 : decode cX1_readText 74 = .ok (.aload_n 0, 1) := by decide +kernel
theorem dX1_readText_75 : decode cX1_readText 75 = .ok (.getfield 41, 3) := by decide +kernel
theorem dX1_readText_78 : decode cX1_readText 78 = .ok (.aload_n 0, 1) := by decide +kernel
theorem dX1_readText_79 : decode cX1_readText 79 = .ok (.getfield 31, 3) := by decide +kernel
theorem dX1_readText_82 : decode cX1_readText 82 = .ok (.if_icmp .lt 11, 3) := by decide +kernel
theorem dX1_readText_85 : decode cX1_readText 85 = .ok (.aload_n 0, 1) := by decide +kernel
theorem dX1_readText_86 : decode cX1_readText 86 = .ok (.getfield 12, 3) := by decide +kernel
theorem dX1_readText_89 : decode cX1_readText 89 = .ok (.getfield 54, 3) := by decide +kernel
theorem dX1_readText_92 : decode cX1_readText 92 = .ok (.ireturn, 1) := by decide +kernel
theorem dX1_readText_93 : decode cX1_readText 93 = .ok (.aload_n 0, 1) := by decide +kernel
theorem dX1_readText_94 : decode cX1_readText 94 = .ok (.bipush 59, 2) := by decide +kernel
theorem dX1_readText_96 : decode cX1_readText 96 = .ok (.invokevirtual 57, 3) := by decide +kernel
theorem dX1_readText_99 : decode cX1_readText 99 = .ok (.ifCond .ne 8, 3) := by decide +kernel
theorem dX1_readText_102 : decode cX1_readText 102 = .ok (.aload_n 0, 1) := by decide +kernel
theorem dX1_readText_103 : decode cX1_readText 103 = .ok (.getfield 44, 3) := by decide +kernel
theorem dX1_readText_106 : decode cX1_readText 106 = .ok (.ireturn, 1) := by decide +kernel
theorem dX1_readText_107 : decode cX1_readText 107 = .ok (.iinc 4 1, 3) := by decide +kernel
theorem dX1_readText_110 : decode cX1_readText 110 = .ok (.goto (-56), 3) := by decide +kernel
theorem dX1_readText_113 : decode cX1_readText 113 = .ok (.aload_n 0, 1) := by decide +kernel
theorem dX1_readText_114 : decode cX1_readText 114 = .ok (.getfield 44, 3) := by decide +kernel
theorem dX1_readText_117 : decode cX1_readText 117 = .ok (.ireturn, 1) := by decide +kernel
theorem dX1_next_0 : decode cX1_next 0 = .ok (.aload_n 0, 1) := by decide +kernel
theorem dX1_next_1 : decode cX1_next 1 = .ok (.getfield 41, 3) := by decide +kernel
theorem dX1_next_4 : decode cX1_next 4 = .ok (.ifCond .lt 42, 3) := by decide +kernel
theorem dX1_next_7 : decode cX1_next 7 = .ok (.aload_n 0, 1) := by decide +kernel
theorem dX1_next_8 : decode cX1_next 8 = .ok (.getfield 41, 3) := by decide +kernel
theorem dX1_next_11 : decode cX1_next 11 = .ok (.aload_n 0, 1) := by decide +kernel
theorem dX1_next_12 : decode cX1_next 12 = .ok (.getfield 31, 3) := by decide +kernel
theorem dX1_next_15 : decode cX1_next 15 = .ok (.if_icmp .ge 31, 3) := by decide +kernel
theorem dX1_next_18 : decode cX1_next 18 = .ok (.aload_n 0, 1) := by decide +kernel
theorem dX1_next_19 : decode cX1_next 19 = .ok (.getfield 41, 3) := by decide +kernel
theorem dX1_next_22 : decode cX1_next 22 = .ok (.aload_n 0, 1) := by decide +kernel
theorem dX1_next_23 : decode cX1_next 23 = .ok (.getfield 18, 3) := by decide +kernel
theorem dX1_next_26 : decode cX1_next 26 = .ok (.arraylength, 1) := by decide +kernel
theorem dX1_next_27 : decode cX1_next 27 = .ok (.if_icmp .ge 19, 3) := by decide +kernel
theorem dX1_next_30 : decode cX1_next 30 = .ok (.aload_n 0, 1) := by decide +kernel
theorem dX1_next_31 : decode cX1_next 31 = .ok (.getfield 18, 3) := by decide +kernel
theorem dX1_next_34 : decode cX1_next 34 = .ok (.aload_n 0, 1) := by decide +kernel
theorem dX1_next_35 : decode cX1_next 35 = .ok (.getfield 41, 3) := by decide +kernel
theorem dX1_next_38 : decode cX1_next 38 = .ok (.baload, 1) := by decide +kernel
theorem dX1_next_39 : decode cX1_next 39 = .ok (.sipush 255, 3) := by decide +kernel
theorem dX1_next_42 : decode cX1_next 42 = .ok (.iand, 1) := by decide +kernel
theorem dX1_next_43 : decode cX1_next 43 = .ok (.goto 4, 3) := by decide +kernel
theorem dX1_next_46 : decode cX1_next 46 = .ok (.iconst (-1), 1) := by decide +kernel
theorem dX1_next_47 : decode cX1_next 47 = .ok (.ireturn, 1) := by decide +kernel
theorem dX1_refuse_0 : decode cX1_refuse 0 = .ok (.aload_n 0, 1) := by decide +kernel
theorem dX1_refuse_1 : decode cX1_refuse 1 = .ok (.sipush (-1000), 3) := by decide +kernel
theorem dX1_refuse_4 : decode cX1_refuse 4 = .ok (.iload_n 1, 1) := by decide +kernel
theorem dX1_refuse_5 : decode cX1_refuse 5 = .ok (.imul, 1) := by decide +kernel
theorem dX1_refuse_6 : decode cX1_refuse 6 = .ok (.aload_n 0, 1) := by decide +kernel
theorem dX1_refuse_7 : decode cX1_refuse 7 = .ok (.getfield 41, 3) := by decide +kernel
theorem dX1_refuse_10 : decode cX1_refuse 10 = .ok (.isub, 1) := by decide +kernel
theorem dX1_refuse_11 : decode cX1_refuse 11 = .ok (.putfield 44, 3) := by decide +kernel
theorem dX1_refuse_14 : decode cX1_refuse 14 = .ok (.iconst 0, 1) := by decide +kernel
theorem dX1_refuse_15 : decode cX1_refuse 15 = .ok (.ireturn, 1) := by decide +kernel
theorem dX1_pass_0 : decode cX1_pass 0 = .ok (.aload_n 0, 1) := by decide +kernel
theorem dX1_pass_1 : decode cX1_pass 1 = .ok (.invokevirtual 61, 3) := by decide +kernel
theorem dX1_pass_4 : decode cX1_pass 4 = .ok (.iload_n 1, 1) := by decide +kernel
theorem dX1_pass_5 : decode cX1_pass 5 = .ok (.if_icmp .eq 9, 3) := by decide +kernel
theorem dX1_pass_8 : decode cX1_pass 8 = .ok (.aload_n 0, 1) := by decide +kernel
theorem dX1_pass_9 : decode cX1_pass 9 = .ok (.iconst 1, 1) := by decide +kernel
theorem dX1_pass_10 : decode cX1_pass 10 = .ok (.invokevirtual 65, 3) := by decide +kernel
theorem dX1_pass_13 : decode cX1_pass 13 = .ok (.ireturn, 1) := by decide +kernel
theorem dX1_pass_14 : decode cX1_pass 14 = .ok (.aload_n 0, 1) := by decide +kernel
theorem dX1_pass_15 : decode cX1_pass 15 = .ok (.dup, 1) := by decide +kernel
theorem dX1_pass_16 : decode cX1_pass 16 = .ok (.getfield 41, 3) := by decide +kernel
theorem dX1_pass_19 : decode cX1_pass 19 = .ok (.iconst 1, 1) := by decide +kernel
theorem dX1_pass_20 : decode cX1_pass 20 = .ok (.iadd, 1) := by decide +kernel
theorem dX1_pass_21 : decode cX1_pass 21 = .ok (.putfield 41, 3) := by decide +kernel
theorem dX1_pass_24 : decode cX1_pass 24 = .ok (.iconst 1, 1) := by decide +kernel
theorem dX1_pass_25 : decode cX1_pass 25 = .ok (.ireturn, 1) := by decide +kernel
theorem dX1_open_0 : decode cX1_open 0 = .ok (.iload_n 1, 1) := by decide +kernel
theorem dX1_open_1 : decode cX1_open 1 = .ok (.bipush 6, 2) := by decide +kernel
theorem dX1_open_3 : decode cX1_open 3 = .ok (.if_icmp .lt 9, 3) := by decide +kernel
theorem dX1_open_6 : decode cX1_open 6 = .ok (.aload_n 0, 1) := by decide +kernel
theorem dX1_open_7 : decode cX1_open 7 = .ok (.iconst 5, 1) := by decide +kernel
theorem dX1_open_8 : decode cX1_open 8 = .ok (.invokevirtual 65, 3) := by decide +kernel
theorem dX1_open_11 : decode cX1_open 11 = .ok (.ireturn, 1) := by decide +kernel
theorem dX1_open_12 : decode cX1_open 12 = .ok (.aload_n 0, 1) := by decide +kernel
theorem dX1_open_13 : decode cX1_open 13 = .ok (.dup, 1) := by decide +kernel
theorem dX1_open_14 : decode cX1_open 14 = .ok (.getfield 41, 3) := by decide +kernel
theorem dX1_open_17 : decode cX1_open 17 = .ok (.iconst 1, 1) := by decide +kernel
theorem dX1_open_18 : decode cX1_open 18 = .ok (.iadd, 1) := by decide +kernel
theorem dX1_open_19 : decode cX1_open 19 = .ok (.putfield 41, 3) := by decide +kernel
theorem dX1_open_22 : decode cX1_open 22 = .ok (.iconst 1, 1) := by decide +kernel
theorem dX1_open_23 : decode cX1_open 23 = .ok (.ireturn, 1) := by decide +kernel
theorem dX1_readClause_0 : decode cX1_readClause 0 = .ok (.aload_n 0, 1) := by decide +kernel
theorem dX1_readClause_1 : decode cX1_readClause 1 = .ok (.invokevirtual 61, 3) := by decide +kernel
theorem dX1_readClause_4 : decode cX1_readClause 4 = .ok (.istore_n 2, 1) := by decide +kernel
theorem dX1_readClause_5 : decode cX1_readClause 5 = .ok (.iload_n 1, 1) := by decide +kernel
theorem dX1_readClause_6 : decode cX1_readClause 6 = .ok (.ifCond .eq 13, 3) := by decide +kernel
theorem dX1_readClause_9 : decode cX1_readClause 9 = .ok (.iload_n 2, 1) := by decide +kernel
theorem dX1_readClause_10 : decode cX1_readClause 10 = .ok (.invokestatic 68, 3) := by decide +kernel
theorem dX1_readClause_13 : decode cX1_readClause 13 = .ok (.ifCond .ne 18, 3) := by decide +kernel
theorem dX1_readClause_16 : decode cX1_readClause 16 = .ok (.goto 9, 3) := by decide +kernel
theorem dX1_readClause_19 : decode cX1_readClause 19 = .ok (.iload_n 2, 1) := by decide +kernel
theorem dX1_readClause_20 : decode cX1_readClause 20 = .ok (.bipush 114, 2) := by decide +kernel
theorem dX1_readClause_22 : decode cX1_readClause 22 = .ok (.if_icmp .eq 9, 3) := by decide +kernel
theorem dX1_readClause_25 : decode cX1_readClause 25 = .ok (.aload_n 0, 1) := by decide +kernel
theorem dX1_readClause_26 : decode cX1_readClause 26 = .ok (.iconst 1, 1) := by decide +kernel
theorem dX1_readClause_27 : decode cX1_readClause 27 = .ok (.invokevirtual 65, 3) := by decide +kernel
theorem dX1_readClause_30 : decode cX1_readClause 30 = .ok (.ireturn, 1) := by decide +kernel
theorem dX1_readClause_31 : decode cX1_readClause 31 = .ok (.aload_n 0, 1) := by decide +kernel
theorem dX1_readClause_32 : decode cX1_readClause 32 = .ok (.getfield 12, 3) := by decide +kernel
theorem dX1_readClause_35 : decode cX1_readClause 35 = .ok (.getfield 54, 3) := by decide +kernel
theorem dX1_readClause_38 : decode cX1_readClause 38 = .ok (.bipush 16, 2) := by decide +kernel
theorem dX1_readClause_40 : decode cX1_readClause 40 = .ok (.if_icmp .lt 9, 3) := by decide +kernel
theorem dX1_readClause_43 : decode cX1_readClause 43 = .ok (.aload_n 0, 1) := by decide +kernel
theorem dX1_readClause_44 : decode cX1_readClause 44 = .ok (.iconst 4, 1) := by decide +kernel
theorem dX1_readClause_45 : decode cX1_readClause 45 = .ok (.invokevirtual 65, 3) := by decide +kernel
theorem dX1_readClause_48 : decode cX1_readClause 48 = .ok (.ireturn, 1) := by decide +kernel
theorem dX1_readClause_49 : decode cX1_readClause 49 = .ok (.aload_n 0, 1) := by decide +kernel
theorem dX1_readClause_50 : decode cX1_readClause 50 = .ok (.dup, 1) := by decide +kernel
theorem dX1_readClause_51 : decode cX1_readClause 51 = .ok (.getfield 41, 3) := by decide +kernel
theorem dX1_readClause_54 : decode cX1_readClause 54 = .ok (.iconst 1, 1) := by decide +kernel
theorem dX1_readClause_55 : decode cX1_readClause 55 = .ok (.iadd, 1) := by decide +kernel
theorem dX1_readClause_56 : decode cX1_readClause 56 = .ok (.putfield 41, 3) := by decide +kernel
theorem dX1_readClause_59 : decode cX1_readClause 59 = .ok (.aload_n 0, 1) := by decide +kernel
theorem dX1_readClause_60 : decode cX1_readClause 60 = .ok (.getfield 12, 3) := by decide +kernel
theorem dX1_readClause_63 : decode cX1_readClause 63 = .ok (.getfield 71, 3) := by decide +kernel
theorem dX1_readClause_66 : decode cX1_readClause 66 = .ok (.istore_n 3, 1) := by decide +kernel
theorem dX1_readClause_67 : decode cX1_readClause 67 = .ok (.aload_n 0, 1) := by decide +kernel
theorem dX1_readClause_68 : decode cX1_readClause 68 = .ok (.getfield 12, 3) := by decide +kernel
theorem dX1_readClause_71 : decode cX1_readClause 71 = .ok (.iload_n 2, 1) := by decide +kernel
theorem dX1_readClause_72 : decode cX1_readClause 72 = .ok (.invokevirtual 74, 3) := by decide +kernel
theorem dX1_readClause_75 : decode cX1_readClause 75 = .ok (.aload_n 0, 1) := by decide +kernel
theorem dX1_readClause_76 : decode cX1_readClause 76 = .ok (.getfield 12, 3) := by decide +kernel
theorem dX1_readClause_79 : decode cX1_readClause 79 = .ok (.iconst 0, 1) := by decide +kernel
theorem dX1_readClause_80 : decode cX1_readClause 80 = .ok (.invokevirtual 74, 3) := by decide +kernel
theorem dX1_readClause_83 : decode cX1_readClause 83 = .ok (.aload_n 0, 1) := by decide +kernel
theorem dX1_readClause_84 : decode cX1_readClause 84 = .ok (.getfield 12, 3) := by decide +kernel
theorem dX1_readClause_87 : decode cX1_readClause 87 = .ok (.iconst 0, 1) := by decide +kernel
theorem dX1_readClause_88 : decode cX1_readClause 88 = .ok (.invokevirtual 74, 3) := by decide +kernel
theorem dX1_readClause_91 : decode cX1_readClause 91 = .ok (.aload_n 0, 1) := by decide +kernel
theorem dX1_readClause_92 : decode cX1_readClause 92 = .ok (.iconst 0, 1) := by decide +kernel
theorem dX1_readClause_93 : decode cX1_readClause 93 = .ok (.invokevirtual 78, 3) := by decide +kernel
theorem dX1_readClause_96 : decode cX1_readClause 96 = .ok (.ifCond .ne 5, 3) := by decide +kernel
theorem dX1_readClause_99 : decode cX1_readClause 99 = .ok (.iconst 0, 1) := by decide +kernel
theorem dX1_readClause_100 : decode cX1_readClause 100 = .ok (.ireturn, 1) := by decide +kernel
theorem dX1_readClause_101 : decode cX1_readClause 101 = .ok (.aload_n 0, 1) := by decide +kernel
theorem dX1_readClause_102 : decode cX1_readClause 102 = .ok (.getfield 12, 3) := by decide +kernel
theorem dX1_readClause_105 : decode cX1_readClause 105 = .ok (.iload_n 3, 1) := by decide +kernel
theorem dX1_readClause_106 : decode cX1_readClause 106 = .ok (.iconst 1, 1) := by decide +kernel
theorem dX1_readClause_107 : decode cX1_readClause 107 = .ok (.iadd, 1) := by decide +kernel
theorem dX1_readClause_108 : decode cX1_readClause 108 = .ok (.aload_n 0, 1) := by decide +kernel
theorem dX1_readClause_109 : decode cX1_readClause 109 = .ok (.getfield 12, 3) := by decide +kernel
theorem dX1_readClause_112 : decode cX1_readClause 112 = .ok (.getfield 71, 3) := by decide +kernel
theorem dX1_readClause_115 : decode cX1_readClause 115 = .ok (.invokevirtual 81, 3) := by decide +kernel
theorem dX1_readClause_118 : decode cX1_readClause 118 = .ok (.aload_n 0, 1) := by decide +kernel
theorem dX1_readClause_119 : decode cX1_readClause 119 = .ok (.bipush 40, 2) := by decide +kernel
theorem dX1_readClause_121 : decode cX1_readClause 121 = .ok (.invokevirtual 57, 3) := by decide +kernel
theorem dX1_readClause_124 : decode cX1_readClause 124 = .ok (.ifCond .eq 20, 3) := by decide +kernel
theorem dX1_readClause_127 : decode cX1_readClause 127 = .ok (.aload_n 0, 1) := by decide +kernel
theorem dX1_readClause_128 : decode cX1_readClause 128 = .ok (.iconst 1, 1) := by decide +kernel
theorem dX1_readClause_129 : decode cX1_readClause 129 = .ok (.invokevirtual 85, 3) := by decide +kernel
theorem dX1_readClause_132 : decode cX1_readClause 132 = .ok (.ifCond .eq 12, 3) := by decide +kernel
theorem dX1_readClause_135 : decode cX1_readClause 135 = .ok (.aload_n 0, 1) := by decide +kernel
theorem dX1_readClause_136 : decode cX1_readClause 136 = .ok (.bipush 41, 2) := by decide +kernel
theorem dX1_readClause_138 : decode cX1_readClause 138 = .ok (.invokevirtual 57, 3) := by decide +kernel
theorem dX1_readClause_141 : decode cX1_readClause 141 = .ok (.ifCond .ne 5, 3) := by decide +kernel
theorem dX1_readClause_144 : decode cX1_readClause 144 = .ok (.iconst 0, 1) := by decide +kernel
theorem dX1_readClause_145 : decode cX1_readClause 145 = .ok (.ireturn, 1) := by decide +kernel
theorem dX1_readClause_146 : decode cX1_readClause 146 = .ok (.aload_n 0, 1) := by decide +kernel
theorem dX1_readClause_147 : decode cX1_readClause 147 = .ok (.getfield 12, 3) := by decide +kernel
theorem dX1_readClause_150 : decode cX1_readClause 150 = .ok (.iload_n 3, 1) := by decide +kernel
theorem dX1_readClause_151 : decode cX1_readClause 151 = .ok (.iconst 2, 1) := by decide +kernel
theorem dX1_readClause_152 : decode cX1_readClause 152 = .ok (.iadd, 1) := by decide +kernel
theorem dX1_readClause_153 : decode cX1_readClause 153 = .ok (.aload_n 0, 1) := by decide +kernel
theorem dX1_readClause_154 : decode cX1_readClause 154 = .ok (.getfield 12, 3) := by decide +kernel
theorem dX1_readClause_157 : decode cX1_readClause 157 = .ok (.getfield 71, 3) := by decide +kernel
theorem dX1_readClause_160 : decode cX1_readClause 160 = .ok (.invokevirtual 81, 3) := by decide +kernel
theorem dX1_readClause_163 : decode cX1_readClause 163 = .ok (.aload_n 0, 1) := by decide +kernel
theorem dX1_readClause_164 : decode cX1_readClause 164 = .ok (.getfield 12, 3) := by decide +kernel
theorem dX1_readClause_167 : decode cX1_readClause 167 = .ok (.dup, 1) := by decide +kernel
theorem dX1_readClause_168 : decode cX1_readClause 168 = .ok (.getfield 54, 3) := by decide +kernel
theorem dX1_readClause_171 : decode cX1_readClause 171 = .ok (.iconst 1, 1) := by decide +kernel
theorem dX1_readClause_172 : decode cX1_readClause 172 = .ok (.iadd, 1) := by decide +kernel
theorem dX1_readClause_173 : decode cX1_readClause 173 = .ok (.putfield 54, 3) := by decide +kernel
theorem dX1_readClause_176 : decode cX1_readClause 176 = .ok (.iconst 1, 1) := by decide +kernel
theorem dX1_readClause_177 : decode cX1_readClause 177 = .ok (.ireturn, 1) := by decide +kernel
theorem dX1_readCondition_0 : decode cX1_readCondition 0 = .ok (.iconst (-1), 1) := by decide +kernel
theorem dX1_readCondition_1 : decode cX1_readCondition 1 = .ok (.istore_n 2, 1) := by decide +kernel
theorem dX1_readCondition_2 : decode cX1_readCondition 2 = .ok (.iconst (-1), 1) := by decide +kernel
theorem dX1_readCondition_3 : decode cX1_readCondition 3 = .ok (.istore_n 3, 1) := by decide +kernel
theorem dX1_readCondition_4 : decode cX1_readCondition 4 = .ok (.iconst 0, 1) := by decide +kernel
theorem dX1_readCondition_5 : decode cX1_readCondition 5 = .ok (.istore 4, 2) := by decide +kernel
theorem dX1_readCondition_7 : decode cX1_readCondition 7 = .ok (.iload 4, 2) := by decide +kernel
theorem dX1_readCondition_9 : decode cX1_readCondition 9 = .ok (.sipush 240, 3) := by decide +kernel
theorem dX1_readCondition_12 : decode cX1_readCondition 12 = .ok (.if_icmp .ge 118, 3) := by decide +kernel
theorem dX1_readCondition_15 : decode cX1_readCondition 15 = .ok (.aload_n 0, 1) := by decide +kernel
theorem dX1_readCondition_16 : decode cX1_readCondition 16 = .ok (.iload_n 1, 1) := by decide +kernel
theorem dX1_readCondition_17 : decode cX1_readCondition 17 = .ok (.invokevirtual 88, 3) := by decide +kernel
theorem dX1_readCondition_20 : decode cX1_readCondition 20 = .ok (.ifCond .ne 5, 3) := by decide +kernel
theorem dX1_readCondition_23 : decode cX1_readCondition 23 = .ok (.iconst 0, 1) := by decide +kernel
theorem dX1_readCondition_24 : decode cX1_readCondition 24 = .ok (.ireturn, 1) := by decide +kernel
theorem dX1_readCondition_25 : decode cX1_readCondition 25 = .ok (.aload_n 0, 1) := by decide +kernel
theorem dX1_readCondition_26 : decode cX1_readCondition 26 = .ok (.getfield 12, 3) := by decide +kernel
theorem dX1_readCondition_29 : decode cX1_readCondition 29 = .ok (.iload_n 2, 1) := by decide +kernel
theorem dX1_readCondition_30 : decode cX1_readCondition 30 = .ok (.iconst 3, 1) := by decide +kernel
theorem dX1_readCondition_31 : decode cX1_readCondition 31 = .ok (.aload_n 0, 1) := by decide +kernel
theorem dX1_readCondition_32 : decode cX1_readCondition 32 = .ok (.getfield 12, 3) := by decide +kernel
theorem dX1_readCondition_35 : decode cX1_readCondition 35 = .ok (.getfield 71, 3) := by decide +kernel
theorem dX1_readCondition_38 : decode cX1_readCondition 38 = .ok (.invokestatic 91, 3) := by decide +kernel
theorem dX1_readCondition_41 : decode cX1_readCondition 41 = .ok (.invokevirtual 81, 3) := by decide +kernel
theorem dX1_readCondition_44 : decode cX1_readCondition 44 = .ok (.iconst (-1), 1) := by decide +kernel
theorem dX1_readCondition_45 : decode cX1_readCondition 45 = .ok (.istore_n 2, 1) := by decide +kernel
theorem dX1_readCondition_46 : decode cX1_readCondition 46 = .ok (.aload_n 0, 1) := by decide +kernel
theorem dX1_readCondition_47 : decode cX1_readCondition 47 = .ok (.invokevirtual 61, 3) := by decide +kernel
theorem dX1_readCondition_50 : decode cX1_readCondition 50 = .ok (.istore 5, 2) := by decide +kernel
theorem dX1_readCondition_52 : decode cX1_readCondition 52 = .ok (.iload 5, 2) := by decide +kernel
theorem dX1_readCondition_54 : decode cX1_readCondition 54 = .ok (.bipush 38, 2) := by decide +kernel
theorem dX1_readCondition_56 : decode cX1_readCondition 56 = .ok (.if_icmp .ne 14, 3) := by decide +kernel
theorem dX1_readCondition_59 : decode cX1_readCondition 59 = .ok (.aload_n 0, 1) := by decide +kernel
theorem dX1_readCondition_60 : decode cX1_readCondition 60 = .ok (.getfield 12, 3) := by decide +kernel
theorem dX1_readCondition_63 : decode cX1_readCondition 63 = .ok (.getfield 71, 3) := by decide +kernel
theorem dX1_readCondition_66 : decode cX1_readCondition 66 = .ok (.istore_n 2, 1) := by decide +kernel
theorem dX1_readCondition_67 : decode cX1_readCondition 67 = .ok (.goto 39, 3) := by decide +kernel
theorem dX1_readCondition_70 : decode cX1_readCondition 70 = .ok (.aload_n 0, 1) := by decide +kernel
theorem dX1_readCondition_71 : decode cX1_readCondition 71 = .ok (.getfield 12, 3) := by decide +kernel
theorem dX1_readCondition_74 : decode cX1_readCondition 74 = .ok (.iload_n 3, 1) := by decide +kernel
theorem dX1_readCondition_75 : decode cX1_readCondition 75 = .ok (.iconst 4, 1) := by decide +kernel
theorem dX1_readCondition_76 : decode cX1_readCondition 76 = .ok (.aload_n 0, 1) := by decide +kernel
theorem dX1_readCondition_77 : decode cX1_readCondition 77 = .ok (.getfield 12, 3) := by decide +kernel
theorem dX1_readCondition_80 : decode cX1_readCondition 80 = .ok (.getfield 71, 3) := by decide +kernel
theorem dX1_readCondition_83 : decode cX1_readCondition 83 = .ok (.invokestatic 91, 3) := by decide +kernel
theorem dX1_readCondition_86 : decode cX1_readCondition 86 = .ok (.invokevirtual 81, 3) := by decide +kernel
theorem dX1_readCondition_89 : decode cX1_readCondition 89 = .ok (.iload 5, 2) := by decide +kernel
theorem dX1_readCondition_91 : decode cX1_readCondition 91 = .ok (.bipush 124, 2) := by decide +kernel
theorem dX1_readCondition_93 : decode cX1_readCondition 93 = .ok (.if_icmp .eq 5, 3) := by decide +kernel
theorem dX1_readCondition_96 : decode cX1_readCondition 96 = .ok (.iconst 1, 1) := by decide +kernel
theorem dX1_readCondition_97 : decode cX1_readCondition 97 = .ok (.ireturn, 1) := by decide +kernel
theorem dX1_readCondition_98 : decode cX1_readCondition 98 = .ok (.aload_n 0, 1) := by decide +kernel
theorem dX1_readCondition_99 : decode cX1_readCondition 99 = .ok (.getfield 12, 3) := by decide +kernel
theorem dX1_readCondition_102 : decode cX1_readCondition 102 = .ok (.getfield 71, 3) := by decide +kernel
theorem dX1_readCondition_105 : decode cX1_readCondition 105 = .ok (.istore_n 3, 1) := by decide +kernel
theorem dX1_readCondition_106 : decode cX1_readCondition 106 = .ok (.aload_n 0, 1) := by decide +kernel
theorem dX1_readCondition_107 : decode cX1_readCondition 107 = .ok (.getfield 12, 3) := by decide +kernel
theorem dX1_readCondition_110 : decode cX1_readCondition 110 = .ok (.iconst 0, 1) := by decide +kernel
theorem dX1_readCondition_111 : decode cX1_readCondition 111 = .ok (.invokevirtual 74, 3) := by decide +kernel
theorem dX1_readCondition_114 : decode cX1_readCondition 114 = .ok (.aload_n 0, 1) := by decide +kernel
theorem dX1_readCondition_115 : decode cX1_readCondition 115 = .ok (.dup, 1) := by decide +kernel
theorem dX1_readCondition_116 : decode cX1_readCondition 116 = .ok (.getfield 41, 3) := by decide +kernel
theorem dX1_readCondition_119 : decode cX1_readCondition 119 = .ok (.iconst 1, 1) := by decide +kernel
theorem dX1_readCondition_120 : decode cX1_readCondition 120 = .ok (.iadd, 1) := by decide +kernel
theorem dX1_readCondition_121 : decode cX1_readCondition 121 = .ok (.putfield 41, 3) := by decide +kernel
theorem dX1_readCondition_124 : decode cX1_readCondition 124 = .ok (.iinc 4 1, 3) := by decide +kernel
theorem dX1_readCondition_127 : decode cX1_readCondition 127 = .ok (.goto (-120), 3) := by decide +kernel
theorem dX1_readCondition_130 : decode cX1_readCondition 130 = .ok (.aload_n 0, 1) := by decide +kernel
theorem dX1_readCondition_131 : decode cX1_readCondition 131 = .ok (.iconst 1, 1) := by decide +kernel
theorem dX1_readCondition_132 : decode cX1_readCondition 132 = .ok (.invokevirtual 65, 3) := by decide +kernel
theorem dX1_readCondition_135 : decode cX1_readCondition 135 = .ok (.ireturn, 1) := by decide +kernel
theorem dX1_readPiece_0 : decode cX1_readPiece 0 = .ok (.aload_n 0, 1) := by decide +kernel
theorem dX1_readPiece_1 : decode cX1_readPiece 1 = .ok (.invokevirtual 61, 3) := by decide +kernel
theorem dX1_readPiece_4 : decode cX1_readPiece 4 = .ok (.istore_n 2, 1) := by decide +kernel
theorem dX1_readPiece_5 : decode cX1_readPiece 5 = .ok (.iload_n 2, 1) := by decide +kernel
theorem dX1_readPiece_6 : decode cX1_readPiece 6 = .ok (.bipush 33, 2) := by decide +kernel
theorem dX1_readPiece_8 : decode cX1_readPiece 8 = .ok (.if_icmp .ne 37, 3) := by decide +kernel
theorem dX1_readPiece_11 : decode cX1_readPiece 11 = .ok (.aload_n 0, 1) := by decide +kernel
theorem dX1_readPiece_12 : decode cX1_readPiece 12 = .ok (.iload_n 1, 1) := by decide +kernel
theorem dX1_readPiece_13 : decode cX1_readPiece 13 = .ok (.invokevirtual 94, 3) := by decide +kernel
theorem dX1_readPiece_16 : decode cX1_readPiece 16 = .ok (.ifCond .eq 13, 3) := by decide +kernel
theorem dX1_readPiece_19 : decode cX1_readPiece 19 = .ok (.aload_n 0, 1) := by decide +kernel
theorem dX1_readPiece_20 : decode cX1_readPiece 20 = .ok (.iload_n 1, 1) := by decide +kernel
theorem dX1_readPiece_21 : decode cX1_readPiece 21 = .ok (.iconst 1, 1) := by decide +kernel
theorem dX1_readPiece_22 : decode cX1_readPiece 22 = .ok (.iadd, 1) := by decide +kernel
theorem dX1_readPiece_23 : decode cX1_readPiece 23 = .ok (.invokevirtual 88, 3) := by decide +kernel
theorem dX1_readPiece_26 : decode cX1_readPiece 26 = .ok (.ifCond .ne 5, 3) := by decide +kernel
theorem dX1_readPiece_29 : decode cX1_readPiece 29 = .ok (.iconst 0, 1) := by decide +kernel
theorem dX1_readPiece_30 : decode cX1_readPiece 30 = .ok (.ireturn, 1) := by decide +kernel
theorem dX1_readPiece_31 : decode cX1_readPiece 31 = .ok (.aload_n 0, 1) := by decide +kernel
theorem dX1_readPiece_32 : decode cX1_readPiece 32 = .ok (.getfield 12, 3) := by decide +kernel
theorem dX1_readPiece_35 : decode cX1_readPiece 35 = .ok (.iconst 2, 1) := by decide +kernel
theorem dX1_readPiece_36 : decode cX1_readPiece 36 = .ok (.iload_n 2, 1) := by decide +kernel
theorem dX1_readPiece_37 : decode cX1_readPiece 37 = .ok (.invokestatic 91, 3) := by decide +kernel
theorem dX1_readPiece_40 : decode cX1_readPiece 40 = .ok (.invokevirtual 74, 3) := by decide +kernel
theorem dX1_readPiece_43 : decode cX1_readPiece 43 = .ok (.iconst 1, 1) := by decide +kernel
theorem dX1_readPiece_44 : decode cX1_readPiece 44 = .ok (.ireturn, 1) := by decide +kernel
theorem dX1_readPiece_45 : decode cX1_readPiece 45 = .ok (.iload_n 2, 1) := by decide +kernel
theorem dX1_readPiece_46 : decode cX1_readPiece 46 = .ok (.bipush 40, 2) := by decide +kernel
theorem dX1_readPiece_48 : decode cX1_readPiece 48 = .ok (.if_icmp .ne 36, 3) := by decide +kernel
theorem dX1_readPiece_51 : decode cX1_readPiece 51 = .ok (.aload_n 0, 1) := by decide +kernel
theorem dX1_readPiece_52 : decode cX1_readPiece 52 = .ok (.iload_n 1, 1) := by decide +kernel
theorem dX1_readPiece_53 : decode cX1_readPiece 53 = .ok (.invokevirtual 94, 3) := by decide +kernel
theorem dX1_readPiece_56 : decode cX1_readPiece 56 = .ok (.ifCond .eq 26, 3) := by decide +kernel
theorem dX1_readPiece_59 : decode cX1_readPiece 59 = .ok (.aload_n 0, 1) := by decide +kernel
theorem dX1_readPiece_60 : decode cX1_readPiece 60 = .ok (.iload_n 1, 1) := by decide +kernel
theorem dX1_readPiece_61 : decode cX1_readPiece 61 = .ok (.iconst 1, 1) := by decide +kernel
theorem dX1_readPiece_62 : decode cX1_readPiece 62 = .ok (.iadd, 1) := by decide +kernel
theorem dX1_readPiece_63 : decode cX1_readPiece 63 = .ok (.invokevirtual 85, 3) := by decide +kernel
theorem dX1_readPiece_66 : decode cX1_readPiece 66 = .ok (.ifCond .eq 16, 3) := by decide +kernel
theorem dX1_readPiece_69 : decode cX1_readPiece 69 = .ok (.aload_n 0, 1) := by decide +kernel
theorem dX1_readPiece_70 : decode cX1_readPiece 70 = .ok (.bipush 41, 2) := by decide +kernel
theorem dX1_readPiece_72 : decode cX1_readPiece 72 = .ok (.invokevirtual 57, 3) := by decide +kernel
theorem dX1_readPiece_75 : decode cX1_readPiece 75 = .ok (.ifCond .eq 7, 3) := by decide +kernel
theorem dX1_readPiece_78 : decode cX1_readPiece 78 = .ok (.iconst 1, 1) := by decide +kernel
theorem dX1_readPiece_79 : decode cX1_readPiece 79 = .ok (.goto 4, 3) := by decide +kernel
theorem dX1_readPiece_82 : decode cX1_readPiece 82 = .ok (.iconst 0, 1) := by decide +kernel
theorem dX1_readPiece_83 : decode cX1_readPiece 83 = .ok (.ireturn, 1) := by decide +kernel
theorem dX1_readPiece_84 : decode cX1_readPiece 84 = .ok (.aload_n 0, 1) := by decide +kernel
theorem dX1_readPiece_85 : decode cX1_readPiece 85 = .ok (.iload_n 1, 1) := by decide +kernel
theorem dX1_readPiece_86 : decode cX1_readPiece 86 = .ok (.invokevirtual 78, 3) := by decide +kernel
theorem dX1_readPiece_89 : decode cX1_readPiece 89 = .ok (.ifCond .ne 5, 3) := by decide +kernel
theorem dX1_readPiece_92 : decode cX1_readPiece 92 = .ok (.iconst 0, 1) := by decide +kernel
theorem dX1_readPiece_93 : decode cX1_readPiece 93 = .ok (.ireturn, 1) := by decide +kernel
theorem dX1_readPiece_94 : decode cX1_readPiece 94 = .ok (.aload_n 0, 1) := by decide +kernel
theorem dX1_readPiece_95 : decode cX1_readPiece 95 = .ok (.invokevirtual 61, 3) := by decide +kernel
theorem dX1_readPiece_98 : decode cX1_readPiece 98 = .ok (.istore_n 3, 1) := by decide +kernel
theorem dX1_readPiece_99 : decode cX1_readPiece 99 = .ok (.iload_n 3, 1) := by decide +kernel
theorem dX1_readPiece_100 : decode cX1_readPiece 100 = .ok (.bipush 60, 2) := by decide +kernel
theorem dX1_readPiece_102 : decode cX1_readPiece 102 = .ok (.if_icmp .eq 21, 3) := by decide +kernel
theorem dX1_readPiece_105 : decode cX1_readPiece 105 = .ok (.iload_n 3, 1) := by decide +kernel
theorem dX1_readPiece_106 : decode cX1_readPiece 106 = .ok (.bipush 62, 2) := by decide +kernel
theorem dX1_readPiece_108 : decode cX1_readPiece 108 = .ok (.if_icmp .eq 15, 3) := by decide +kernel
theorem dX1_readPiece_111 : decode cX1_readPiece 111 = .ok (.iload_n 3, 1) := by decide +kernel
theorem dX1_readPiece_112 : decode cX1_readPiece 112 = .ok (.bipush 61, 2) := by decide +kernel
theorem dX1_readPiece_114 : decode cX1_readPiece 114 = .ok (.if_icmp .eq 9, 3) := by decide +kernel
theorem dX1_readPiece_117 : decode cX1_readPiece 117 = .ok (.aload_n 0, 1) := by decide +kernel
theorem dX1_readPiece_118 : decode cX1_readPiece 118 = .ok (.iconst 1, 1) := by decide +kernel
theorem dX1_readPiece_119 : decode cX1_readPiece 119 = .ok (.invokevirtual 65, 3) := by decide +kernel
theorem dX1_readPiece_122 : decode cX1_readPiece 122 = .ok (.ireturn, 1) := by decide +kernel
theorem dX1_readPiece_123 : decode cX1_readPiece 123 = .ok (.aload_n 0, 1) := by decide +kernel
theorem dX1_readPiece_124 : decode cX1_readPiece 124 = .ok (.dup, 1) := by decide +kernel
theorem dX1_readPiece_125 : decode cX1_readPiece 125 = .ok (.getfield 41, 3) := by decide +kernel
theorem dX1_readPiece_128 : decode cX1_readPiece 128 = .ok (.iconst 1, 1) := by decide +kernel
theorem dX1_readPiece_129 : decode cX1_readPiece 129 = .ok (.iadd, 1) := by decide +kernel
theorem dX1_readPiece_130 : decode cX1_readPiece 130 = .ok (.putfield 41, 3) := by decide +kernel
theorem dX1_readPiece_133 : decode cX1_readPiece 133 = .ok (.aload_n 0, 1) := by decide +kernel
theorem dX1_readPiece_134 : decode cX1_readPiece 134 = .ok (.iload_n 1, 1) := by decide +kernel
theorem dX1_readPiece_135 : decode cX1_readPiece 135 = .ok (.invokevirtual 78, 3) := by decide +kernel
theorem dX1_readPiece_138 : decode cX1_readPiece 138 = .ok (.ifCond .ne 5, 3) := by decide +kernel
theorem dX1_readPiece_141 : decode cX1_readPiece 141 = .ok (.iconst 0, 1) := by decide +kernel
theorem dX1_readPiece_142 : decode cX1_readPiece 142 = .ok (.ireturn, 1) := by decide +kernel
theorem dX1_readPiece_143 : decode cX1_readPiece 143 = .ok (.aload_n 0, 1) := by decide +kernel
theorem dX1_readPiece_144 : decode cX1_readPiece 144 = .ok (.getfield 12, 3) := by decide +kernel
theorem dX1_readPiece_147 : decode cX1_readPiece 147 = .ok (.iconst 2, 1) := by decide +kernel
theorem dX1_readPiece_148 : decode cX1_readPiece 148 = .ok (.iload_n 3, 1) := by decide +kernel
theorem dX1_readPiece_149 : decode cX1_readPiece 149 = .ok (.invokestatic 91, 3) := by decide +kernel
theorem dX1_readPiece_152 : decode cX1_readPiece 152 = .ok (.invokevirtual 74, 3) := by decide +kernel
theorem dX1_readPiece_155 : decode cX1_readPiece 155 = .ok (.iconst 1, 1) := by decide +kernel
theorem dX1_readPiece_156 : decode cX1_readPiece 156 = .ok (.ireturn, 1) := by decide +kernel
theorem dX1_readSum_0 : decode cX1_readSum 0 = .ok (.iconst (-1), 1) := by decide +kernel
theorem dX1_readSum_1 : decode cX1_readSum 1 = .ok (.istore_n 2, 1) := by decide +kernel
theorem dX1_readSum_2 : decode cX1_readSum 2 = .ok (.iconst (-1), 1) := by decide +kernel
theorem dX1_readSum_3 : decode cX1_readSum 3 = .ok (.istore_n 3, 1) := by decide +kernel
theorem dX1_readSum_4 : decode cX1_readSum 4 = .ok (.iconst 0, 1) := by decide +kernel
theorem dX1_readSum_5 : decode cX1_readSum 5 = .ok (.istore 4, 2) := by decide +kernel
theorem dX1_readSum_7 : decode cX1_readSum 7 = .ok (.iload 4, 2) := by decide +kernel
theorem dX1_readSum_9 : decode cX1_readSum 9 = .ok (.sipush 240, 3) := by decide +kernel
theorem dX1_readSum_12 : decode cX1_readSum 12 = .ok (.if_icmp .ge 93, 3) := by decide +kernel
theorem dX1_readSum_15 : decode cX1_readSum 15 = .ok (.aload_n 0, 1) := by decide +kernel
theorem dX1_readSum_16 : decode cX1_readSum 16 = .ok (.iload_n 1, 1) := by decide +kernel
theorem dX1_readSum_17 : decode cX1_readSum 17 = .ok (.invokevirtual 97, 3) := by decide +kernel
theorem dX1_readSum_20 : decode cX1_readSum 20 = .ok (.ifCond .ne 5, 3) := by decide +kernel
theorem dX1_readSum_23 : decode cX1_readSum 23 = .ok (.iconst 0, 1) := by decide +kernel
theorem dX1_readSum_24 : decode cX1_readSum 24 = .ok (.ireturn, 1) := by decide +kernel
theorem dX1_readSum_25 : decode cX1_readSum 25 = .ok (.aload_n 0, 1) := by decide +kernel
theorem dX1_readSum_26 : decode cX1_readSum 26 = .ok (.iload_n 3, 1) := by decide +kernel
theorem dX1_readSum_27 : decode cX1_readSum 27 = .ok (.invokevirtual 100, 3) := by decide +kernel
theorem dX1_readSum_30 : decode cX1_readSum 30 = .ok (.iconst (-1), 1) := by decide +kernel
theorem dX1_readSum_31 : decode cX1_readSum 31 = .ok (.istore_n 3, 1) := by decide +kernel
theorem dX1_readSum_32 : decode cX1_readSum 32 = .ok (.aload_n 0, 1) := by decide +kernel
theorem dX1_readSum_33 : decode cX1_readSum 33 = .ok (.invokevirtual 61, 3) := by decide +kernel
theorem dX1_readSum_36 : decode cX1_readSum 36 = .ok (.istore 5, 2) := by decide +kernel
theorem dX1_readSum_38 : decode cX1_readSum 38 = .ok (.iload 5, 2) := by decide +kernel
theorem dX1_readSum_40 : decode cX1_readSum 40 = .ok (.bipush 42, 2) := by decide +kernel
theorem dX1_readSum_42 : decode cX1_readSum 42 = .ok (.if_icmp .eq 17, 3) := by decide +kernel
theorem dX1_readSum_45 : decode cX1_readSum 45 = .ok (.iload 5, 2) := by decide +kernel
theorem dX1_readSum_47 : decode cX1_readSum 47 = .ok (.bipush 47, 2) := by decide +kernel
theorem dX1_readSum_49 : decode cX1_readSum 49 = .ok (.if_icmp .eq 10, 3) := by decide +kernel
theorem dX1_readSum_52 : decode cX1_readSum 52 = .ok (.iload 5, 2) := by decide +kernel
theorem dX1_readSum_54 : decode cX1_readSum 54 = .ok (.bipush 37, 2) := by decide +kernel
theorem dX1_readSum_56 : decode cX1_readSum 56 = .ok (.if_icmp .ne 9, 3) := by decide +kernel
theorem dX1_readSum_59 : decode cX1_readSum 59 = .ok (.iload 5, 2) := by decide +kernel
theorem dX1_readSum_61 : decode cX1_readSum 61 = .ok (.istore_n 3, 1) := by decide +kernel
theorem dX1_readSum_62 : decode cX1_readSum 62 = .ok (.goto 27, 3) := by decide +kernel
theorem dX1_readSum_65 : decode cX1_readSum 65 = .ok (.aload_n 0, 1) := by decide +kernel
theorem dX1_readSum_66 : decode cX1_readSum 66 = .ok (.iload_n 2, 1) := by decide +kernel
theorem dX1_readSum_67 : decode cX1_readSum 67 = .ok (.invokevirtual 100, 3) := by decide +kernel
theorem dX1_readSum_70 : decode cX1_readSum 70 = .ok (.iload 5, 2) := by decide +kernel
theorem dX1_readSum_72 : decode cX1_readSum 72 = .ok (.bipush 43, 2) := by decide +kernel
theorem dX1_readSum_74 : decode cX1_readSum 74 = .ok (.if_icmp .eq 12, 3) := by decide +kernel
theorem dX1_readSum_77 : decode cX1_readSum 77 = .ok (.iload 5, 2) := by decide +kernel
theorem dX1_readSum_79 : decode cX1_readSum 79 = .ok (.bipush 45, 2) := by decide +kernel
theorem dX1_readSum_81 : decode cX1_readSum 81 = .ok (.if_icmp .eq 5, 3) := by decide +kernel
theorem dX1_readSum_84 : decode cX1_readSum 84 = .ok (.iconst 1, 1) := by decide +kernel
theorem dX1_readSum_85 : decode cX1_readSum 85 = .ok (.ireturn, 1) := by decide +kernel
theorem dX1_readSum_86 : decode cX1_readSum 86 = .ok (.iload 5, 2) := by decide +kernel
theorem dX1_readSum_88 : decode cX1_readSum 88 = .ok (.istore_n 2, 1) := by decide +kernel
theorem dX1_readSum_89 : decode cX1_readSum 89 = .ok (.aload_n 0, 1) := by decide +kernel
theorem dX1_readSum_90 : decode cX1_readSum 90 = .ok (.dup, 1) := by decide +kernel
theorem dX1_readSum_91 : decode cX1_readSum 91 = .ok (.getfield 41, 3) := by decide +kernel
theorem dX1_readSum_94 : decode cX1_readSum 94 = .ok (.iconst 1, 1) := by decide +kernel
theorem dX1_readSum_95 : decode cX1_readSum 95 = .ok (.iadd, 1) := by decide +kernel
theorem dX1_readSum_96 : decode cX1_readSum 96 = .ok (.putfield 41, 3) := by decide +kernel
theorem dX1_readSum_99 : decode cX1_readSum 99 = .ok (.iinc 4 1, 3) := by decide +kernel
theorem dX1_readSum_102 : decode cX1_readSum 102 = .ok (.goto (-95), 3) := by decide +kernel
theorem dX1_readSum_105 : decode cX1_readSum 105 = .ok (.aload_n 0, 1) := by decide +kernel
theorem dX1_readSum_106 : decode cX1_readSum 106 = .ok (.iconst 1, 1) := by decide +kernel
theorem dX1_readSum_107 : decode cX1_readSum 107 = .ok (.invokevirtual 65, 3) := by decide +kernel
theorem dX1_readSum_110 : decode cX1_readSum 110 = .ok (.ireturn, 1) := by decide +kernel
theorem dX1_addSign_0 : decode cX1_addSign 0 = .ok (.iload_n 1, 1) := by decide +kernel
theorem dX1_addSign_1 : decode cX1_addSign 1 = .ok (.iconst (-1), 1) := by decide +kernel
theorem dX1_addSign_2 : decode cX1_addSign 2 = .ok (.if_icmp .eq 15, 3) := by decide +kernel
theorem dX1_addSign_5 : decode cX1_addSign 5 = .ok (.aload_n 0, 1) := by decide +kernel
theorem dX1_addSign_6 : decode cX1_addSign 6 = .ok (.getfield 12, 3) := by decide +kernel
theorem dX1_addSign_9 : decode cX1_addSign 9 = .ok (.iconst 2, 1) := by decide +kernel
theorem dX1_addSign_10 : decode cX1_addSign 10 = .ok (.iload_n 1, 1) := by decide +kernel
theorem dX1_addSign_11 : decode cX1_addSign 11 = .ok (.invokestatic 91, 3) := by decide +kernel
theorem dX1_addSign_14 : decode cX1_addSign 14 = .ok (.invokevirtual 74, 3) := by decide +kernel
theorem dX1_addSign_17 : decode cX1_addSign 17 = .ok (.return_, 1) := by decide +kernel
theorem dX1_readFactor_0 : decode cX1_readFactor 0 = .ok (.aload_n 0, 1) := by decide +kernel
theorem dX1_readFactor_1 : decode cX1_readFactor 1 = .ok (.invokevirtual 61, 3) := by decide +kernel
theorem dX1_readFactor_4 : decode cX1_readFactor 4 = .ok (.istore_n 2, 1) := by decide +kernel
theorem dX1_readFactor_5 : decode cX1_readFactor 5 = .ok (.iload_n 2, 1) := by decide +kernel
theorem dX1_readFactor_6 : decode cX1_readFactor 6 = .ok (.bipush 91, 2) := by decide +kernel
theorem dX1_readFactor_8 : decode cX1_readFactor 8 = .ok (.if_icmp .ne 36, 3) := by decide +kernel
theorem dX1_readFactor_11 : decode cX1_readFactor 11 = .ok (.aload_n 0, 1) := by decide +kernel
theorem dX1_readFactor_12 : decode cX1_readFactor 12 = .ok (.iload_n 1, 1) := by decide +kernel
theorem dX1_readFactor_13 : decode cX1_readFactor 13 = .ok (.invokevirtual 94, 3) := by decide +kernel
theorem dX1_readFactor_16 : decode cX1_readFactor 16 = .ok (.ifCond .eq 26, 3) := by decide +kernel
theorem dX1_readFactor_19 : decode cX1_readFactor 19 = .ok (.aload_n 0, 1) := by decide +kernel
theorem dX1_readFactor_20 : decode cX1_readFactor 20 = .ok (.iload_n 1, 1) := by decide +kernel
theorem dX1_readFactor_21 : decode cX1_readFactor 21 = .ok (.iconst 1, 1) := by decide +kernel
theorem dX1_readFactor_22 : decode cX1_readFactor 22 = .ok (.iadd, 1) := by decide +kernel
theorem dX1_readFactor_23 : decode cX1_readFactor 23 = .ok (.invokevirtual 78, 3) := by decide +kernel
theorem dX1_readFactor_26 : decode cX1_readFactor 26 = .ok (.ifCond .eq 16, 3) := by decide +kernel
theorem dX1_readFactor_29 : decode cX1_readFactor 29 = .ok (.aload_n 0, 1) := by decide +kernel
theorem dX1_readFactor_30 : decode cX1_readFactor 30 = .ok (.bipush 93, 2) := by decide +kernel
theorem dX1_readFactor_32 : decode cX1_readFactor 32 = .ok (.invokevirtual 57, 3) := by decide +kernel
theorem dX1_readFactor_35 : decode cX1_readFactor 35 = .ok (.ifCond .eq 7, 3) := by decide +kernel
theorem dX1_readFactor_38 : decode cX1_readFactor 38 = .ok (.iconst 1, 1) := by decide +kernel
theorem dX1_readFactor_39 : decode cX1_readFactor 39 = .ok (.goto 4, 3) := by decide +kernel
theorem dX1_readFactor_42 : decode cX1_readFactor 42 = .ok (.iconst 0, 1) := by decide +kernel
theorem dX1_readFactor_43 : decode cX1_readFactor 43 = .ok (.ireturn, 1) := by decide +kernel
theorem dX1_readFactor_44 : decode cX1_readFactor 44 = .ok (.iload_n 2, 1) := by decide +kernel
theorem dX1_readFactor_45 : decode cX1_readFactor 45 = .ok (.invokestatic 103, 3) := by decide +kernel
theorem dX1_readFactor_48 : decode cX1_readFactor 48 = .ok (.ifCond .eq 8, 3) := by decide +kernel
theorem dX1_readFactor_51 : decode cX1_readFactor 51 = .ok (.aload_n 0, 1) := by decide +kernel
theorem dX1_readFactor_52 : decode cX1_readFactor 52 = .ok (.invokevirtual 106, 3) := by decide +kernel
theorem dX1_readFactor_55 : decode cX1_readFactor 55 = .ok (.ireturn, 1) := by decide +kernel
theorem dX1_readFactor_56 : decode cX1_readFactor 56 = .ok (.iload_n 2, 1) := by decide +kernel
theorem dX1_readFactor_57 : decode cX1_readFactor 57 = .ok (.invokestatic 110, 3) := by decide +kernel
theorem dX1_readFactor_60 : decode cX1_readFactor 60 = .ok (.istore_n 3, 1) := by decide +kernel
theorem dX1_readFactor_61 : decode cX1_readFactor 61 = .ok (.iload_n 3, 1) := by decide +kernel
theorem dX1_readFactor_62 : decode cX1_readFactor 62 = .ok (.ifCond .ge 9, 3) := by decide +kernel
theorem dX1_readFactor_65 : decode cX1_readFactor 65 = .ok (.aload_n 0, 1) := by decide +kernel
theorem dX1_readFactor_66 : decode cX1_readFactor 66 = .ok (.iconst 1, 1) := by decide +kernel
theorem dX1_readFactor_67 : decode cX1_readFactor 67 = .ok (.invokevirtual 65, 3) := by decide +kernel
theorem dX1_readFactor_70 : decode cX1_readFactor 70 = .ok (.ireturn, 1) := by decide +kernel
theorem dX1_readFactor_71 : decode cX1_readFactor 71 = .ok (.aload_n 0, 1) := by decide +kernel
theorem dX1_readFactor_72 : decode cX1_readFactor 72 = .ok (.dup, 1) := by decide +kernel
theorem dX1_readFactor_73 : decode cX1_readFactor 73 = .ok (.getfield 41, 3) := by decide +kernel
theorem dX1_readFactor_76 : decode cX1_readFactor 76 = .ok (.iconst 1, 1) := by decide +kernel
theorem dX1_readFactor_77 : decode cX1_readFactor 77 = .ok (.iadd, 1) := by decide +kernel
theorem dX1_readFactor_78 : decode cX1_readFactor 78 = .ok (.putfield 41, 3) := by decide +kernel
theorem dX1_readFactor_81 : decode cX1_readFactor 81 = .ok (.aload_n 0, 1) := by decide +kernel
theorem dX1_readFactor_82 : decode cX1_readFactor 82 = .ok (.getfield 12, 3) := by decide +kernel
theorem dX1_readFactor_85 : decode cX1_readFactor 85 = .ok (.iconst 1, 1) := by decide +kernel
theorem dX1_readFactor_86 : decode cX1_readFactor 86 = .ok (.iload_n 3, 1) := by decide +kernel
theorem dX1_readFactor_87 : decode cX1_readFactor 87 = .ok (.invokestatic 91, 3) := by decide +kernel
theorem dX1_readFactor_90 : decode cX1_readFactor 90 = .ok (.invokevirtual 74, 3) := by decide +kernel
theorem dX1_readFactor_93 : decode cX1_readFactor 93 = .ok (.iconst 1, 1) := by decide +kernel
theorem dX1_readFactor_94 : decode cX1_readFactor 94 = .ok (.ireturn, 1) := by decide +kernel
theorem dX1_readNumber_0 : decode cX1_readNumber 0 = .ok (.iconst 0, 1) := by decide +kernel
theorem dX1_readNumber_1 : decode cX1_readNumber 1 = .ok (.istore_n 1, 1) := by decide +kernel
theorem dX1_readNumber_2 : decode cX1_readNumber 2 = .ok (.iconst 0, 1) := by decide +kernel
theorem dX1_readNumber_3 : decode cX1_readNumber 3 = .ok (.istore_n 2, 1) := by decide +kernel
theorem dX1_readNumber_4 : decode cX1_readNumber 4 = .ok (.iload_n 2, 1) := by decide +kernel
theorem dX1_readNumber_5 : decode cX1_readNumber 5 = .ok (.iconst 5, 1) := by decide +kernel
theorem dX1_readNumber_6 : decode cX1_readNumber 6 = .ok (.if_icmp .ge 42, 3) := by decide +kernel
theorem dX1_readNumber_9 : decode cX1_readNumber 9 = .ok (.aload_n 0, 1) := by decide +kernel
theorem dX1_readNumber_10 : decode cX1_readNumber 10 = .ok (.invokevirtual 61, 3) := by decide +kernel
theorem dX1_readNumber_13 : decode cX1_readNumber 13 = .ok (.invokestatic 103, 3) := by decide +kernel
theorem dX1_readNumber_16 : decode cX1_readNumber 16 = .ok (.ifCond .eq 32, 3) := by decide +kernel
theorem dX1_readNumber_19 : decode cX1_readNumber 19 = .ok (.bipush 10, 2) := by decide +kernel
theorem dX1_readNumber_21 : decode cX1_readNumber 21 = .ok (.iload_n 1, 1) := by decide +kernel
theorem dX1_readNumber_22 : decode cX1_readNumber 22 = .ok (.imul, 1) := by decide +kernel
theorem dX1_readNumber_23 : decode cX1_readNumber 23 = .ok (.aload_n 0, 1) := by decide +kernel
theorem dX1_readNumber_24 : decode cX1_readNumber 24 = .ok (.invokevirtual 61, 3) := by decide +kernel
theorem dX1_readNumber_27 : decode cX1_readNumber 27 = .ok (.iadd, 1) := by decide +kernel
theorem dX1_readNumber_28 : decode cX1_readNumber 28 = .ok (.bipush 48, 2) := by decide +kernel
theorem dX1_readNumber_30 : decode cX1_readNumber 30 = .ok (.isub, 1) := by decide +kernel
theorem dX1_readNumber_31 : decode cX1_readNumber 31 = .ok (.istore_n 1, 1) := by decide +kernel
theorem dX1_readNumber_32 : decode cX1_readNumber 32 = .ok (.aload_n 0, 1) := by decide +kernel
theorem dX1_readNumber_33 : decode cX1_readNumber 33 = .ok (.dup, 1) := by decide +kernel
theorem dX1_readNumber_34 : decode cX1_readNumber 34 = .ok (.getfield 41, 3) := by decide +kernel
theorem dX1_readNumber_37 : decode cX1_readNumber 37 = .ok (.iconst 1, 1) := by decide +kernel
theorem dX1_readNumber_38 : decode cX1_readNumber 38 = .ok (.iadd, 1) := by decide +kernel
theorem dX1_readNumber_39 : decode cX1_readNumber 39 = .ok (.putfield 41, 3) := by decide +kernel
theorem dX1_readNumber_42 : decode cX1_readNumber 42 = .ok (.iinc 2 1, 3) := by decide +kernel
theorem dX1_readNumber_45 : decode cX1_readNumber 45 = .ok (.goto (-41), 3) := by decide +kernel
theorem dX1_readNumber_48 : decode cX1_readNumber 48 = .ok (.aload_n 0, 1) := by decide +kernel
theorem dX1_readNumber_49 : decode cX1_readNumber 49 = .ok (.invokevirtual 61, 3) := by decide +kernel
theorem dX1_readNumber_52 : decode cX1_readNumber 52 = .ok (.invokestatic 103, 3) := by decide +kernel
theorem dX1_readNumber_55 : decode cX1_readNumber 55 = .ok (.ifCond .eq 9, 3) := by decide +kernel
theorem dX1_readNumber_58 : decode cX1_readNumber 58 = .ok (.aload_n 0, 1) := by decide +kernel
theorem dX1_readNumber_59 : decode cX1_readNumber 59 = .ok (.iconst 2, 1) := by decide +kernel
theorem dX1_readNumber_60 : decode cX1_readNumber 60 = .ok (.invokevirtual 65, 3) := by decide +kernel
theorem dX1_readNumber_63 : decode cX1_readNumber 63 = .ok (.ireturn, 1) := by decide +kernel
theorem dX1_readNumber_64 : decode cX1_readNumber 64 = .ok (.aload_n 0, 1) := by decide +kernel
theorem dX1_readNumber_65 : decode cX1_readNumber 65 = .ok (.getfield 12, 3) := by decide +kernel
theorem dX1_readNumber_68 : decode cX1_readNumber 68 = .ok (.iconst 0, 1) := by decide +kernel
theorem dX1_readNumber_69 : decode cX1_readNumber 69 = .ok (.iload_n 1, 1) := by decide +kernel
theorem dX1_readNumber_70 : decode cX1_readNumber 70 = .ok (.invokestatic 91, 3) := by decide +kernel
theorem dX1_readNumber_73 : decode cX1_readNumber 73 = .ok (.invokevirtual 74, 3) := by decide +kernel
theorem dX1_readNumber_76 : decode cX1_readNumber 76 = .ok (.iconst 1, 1) := by decide +kernel
theorem dX1_readNumber_77 : decode cX1_readNumber 77 = .ok (.ireturn, 1) := by decide +kernel
theorem dX1_isDigit_0 : decode cX1_isDigit 0 = .ok (.iload_n 0, 1) := by decide +kernel
theorem dX1_isDigit_1 : decode cX1_isDigit 1 = .ok (.bipush 48, 2) := by decide +kernel
theorem dX1_isDigit_3 : decode cX1_isDigit 3 = .ok (.if_icmp .lt 13, 3) := by decide +kernel
theorem dX1_isDigit_6 : decode cX1_isDigit 6 = .ok (.iload_n 0, 1) := by decide +kernel
theorem dX1_isDigit_7 : decode cX1_isDigit 7 = .ok (.bipush 57, 2) := by decide +kernel
theorem dX1_isDigit_9 : decode cX1_isDigit 9 = .ok (.if_icmp .gt 7, 3) := by decide +kernel
theorem dX1_isDigit_12 : decode cX1_isDigit 12 = .ok (.iconst 1, 1) := by decide +kernel
theorem dX1_isDigit_13 : decode cX1_isDigit 13 = .ok (.goto 4, 3) := by decide +kernel
theorem dX1_isDigit_16 : decode cX1_isDigit 16 = .ok (.iconst 0, 1) := by decide +kernel
theorem dX1_isDigit_17 : decode cX1_isDigit 17 = .ok (.ireturn, 1) := by decide +kernel
theorem dX1_isLawLetter_0 : decode cX1_isLawLetter 0 = .ok (.iload_n 0, 1) := by decide +kernel
theorem dX1_isLawLetter_1 : decode cX1_isLawLetter 1 = .ok (.bipush 97, 2) := by decide +kernel
theorem dX1_isLawLetter_3 : decode cX1_isLawLetter 3 = .ok (.if_icmp .eq 27, 3) := by decide +kernel
theorem dX1_isLawLetter_6 : decode cX1_isLawLetter 6 = .ok (.iload_n 0, 1) := by decide +kernel
theorem dX1_isLawLetter_7 : decode cX1_isLawLetter 7 = .ok (.bipush 98, 2) := by decide +kernel
theorem dX1_isLawLetter_9 : decode cX1_isLawLetter 9 = .ok (.if_icmp .eq 21, 3) := by decide +kernel
theorem dX1_isLawLetter_12 : decode cX1_isLawLetter 12 = .ok (.iload_n 0, 1) := by decide +kernel
theorem dX1_isLawLetter_13 : decode cX1_isLawLetter 13 = .ok (.bipush 99, 2) := by decide +kernel
theorem dX1_isLawLetter_15 : decode cX1_isLawLetter 15 = .ok (.if_icmp .eq 15, 3) := by decide +kernel
theorem dX1_isLawLetter_18 : decode cX1_isLawLetter 18 = .ok (.iload_n 0, 1) := by decide +kernel
theorem dX1_isLawLetter_19 : decode cX1_isLawLetter 19 = .ok (.bipush 104, 2) := by decide +kernel
theorem dX1_isLawLetter_21 : decode cX1_isLawLetter 21 = .ok (.if_icmp .eq 9, 3) := by decide +kernel
theorem dX1_isLawLetter_24 : decode cX1_isLawLetter 24 = .ok (.iload_n 0, 1) := by decide +kernel
theorem dX1_isLawLetter_25 : decode cX1_isLawLetter 25 = .ok (.bipush 107, 2) := by decide +kernel
theorem dX1_isLawLetter_27 : decode cX1_isLawLetter 27 = .ok (.if_icmp .ne 7, 3) := by decide +kernel
theorem dX1_isLawLetter_30 : decode cX1_isLawLetter 30 = .ok (.iconst 1, 1) := by decide +kernel
theorem dX1_isLawLetter_31 : decode cX1_isLawLetter 31 = .ok (.goto 4, 3) := by decide +kernel
theorem dX1_isLawLetter_34 : decode cX1_isLawLetter 34 = .ok (.iconst 0, 1) := by decide +kernel
theorem dX1_isLawLetter_35 : decode cX1_isLawLetter 35 = .ok (.ireturn, 1) := by decide +kernel
theorem dX1_letterPlace_0 : decode cX1_letterPlace 0 = .ok (.iload_n 0, 1) := by decide +kernel
theorem dX1_letterPlace_1 : decode cX1_letterPlace 1 = .ok (.tableswitch 104 102 118 #[93, 104, 104, 83, 104, 104, 95, 89, 91, 101, 104, 104, 104, 98, 104, 85, 87], 83) := by decide +kernel
theorem dX1_letterPlace_84 : decode cX1_letterPlace 84 = .ok (.iconst 0, 1) := by decide +kernel
theorem dX1_letterPlace_85 : decode cX1_letterPlace 85 = .ok (.ireturn, 1) := by decide +kernel
theorem dX1_letterPlace_86 : decode cX1_letterPlace 86 = .ok (.iconst 1, 1) := by decide +kernel
theorem dX1_letterPlace_87 : decode cX1_letterPlace 87 = .ok (.ireturn, 1) := by decide +kernel
theorem dX1_letterPlace_88 : decode cX1_letterPlace 88 = .ok (.iconst 2, 1) := by decide +kernel
theorem dX1_letterPlace_89 : decode cX1_letterPlace 89 = .ok (.ireturn, 1) := by decide +kernel
theorem dX1_letterPlace_90 : decode cX1_letterPlace 90 = .ok (.iconst 3, 1) := by decide +kernel
theorem dX1_letterPlace_91 : decode cX1_letterPlace 91 = .ok (.ireturn, 1) := by decide +kernel
theorem dX1_letterPlace_92 : decode cX1_letterPlace 92 = .ok (.iconst 4, 1) := by decide +kernel
theorem dX1_letterPlace_93 : decode cX1_letterPlace 93 = .ok (.ireturn, 1) := by decide +kernel
theorem dX1_letterPlace_94 : decode cX1_letterPlace 94 = .ok (.iconst 5, 1) := by decide +kernel
theorem dX1_letterPlace_95 : decode cX1_letterPlace 95 = .ok (.ireturn, 1) := by decide +kernel
theorem dX1_letterPlace_96 : decode cX1_letterPlace 96 = .ok (.bipush 6, 2) := by decide +kernel
theorem dX1_letterPlace_98 : decode cX1_letterPlace 98 = .ok (.ireturn, 1) := by decide +kernel
theorem dX1_letterPlace_99 : decode cX1_letterPlace 99 = .ok (.bipush 7, 2) := by decide +kernel
theorem dX1_letterPlace_101 : decode cX1_letterPlace 101 = .ok (.ireturn, 1) := by decide +kernel
theorem dX1_letterPlace_102 : decode cX1_letterPlace 102 = .ok (.bipush 8, 2) := by decide +kernel
theorem dX1_letterPlace_104 : decode cX1_letterPlace 104 = .ok (.ireturn, 1) := by decide +kernel
theorem dX1_letterPlace_105 : decode cX1_letterPlace 105 = .ok (.iconst (-1), 1) := by decide +kernel
theorem dX1_letterPlace_106 : decode cX1_letterPlace 106 = .ok (.ireturn, 1) := by decide +kernel
theorem dX2_init_0 : decode cX2_init 0 = .ok (.aload_n 0, 1) := by decide +kernel
theorem dX2_init_1 : decode cX2_init 1 = .ok (.invokespecial 3, 3) := by decide +kernel
theorem dX2_init_4 : decode cX2_init 4 = .ok (.aload_n 0, 1) := by decide +kernel
theorem dX2_init_5 : decode cX2_init 5 = .ok (.bipush 56, 2) := by decide +kernel
theorem dX2_init_7 : decode cX2_init 7 = .ok (.newarray .int, 2) := by decide +kernel
theorem dX2_init_9 : decode cX2_init 9 = .ok (.putfield 11, 3) := by decide +kernel
theorem dX2_init_12 : decode cX2_init 12 = .ok (.aload_n 0, 1) := by decide +kernel
theorem dX2_init_13 : decode cX2_init 13 = .ok (.bipush 56, 2) := by decide +kernel
theorem dX2_init_15 : decode cX2_init 15 = .ok (.newarray .int, 2) := by decide +kernel
theorem dX2_init_17 : decode cX2_init 17 = .ok (.putfield 15, 3) := by decide +kernel
theorem dX2_init_20 : decode cX2_init 20 = .ok (.aload_n 0, 1) := by decide +kernel
theorem dX2_init_21 : decode cX2_init 21 = .ok (.sipush 280, 3) := by decide +kernel
theorem dX2_init_24 : decode cX2_init 24 = .ok (.newarray .int, 2) := by decide +kernel
theorem dX2_init_26 : decode cX2_init 26 = .ok (.putfield 18, 3) := by decide +kernel
theorem dX2_init_29 : decode cX2_init 29 = .ok (.aload_n 0, 1) := by decide +kernel
theorem dX2_init_30 : decode cX2_init 30 = .ok (.sipush 280, 3) := by decide +kernel
theorem dX2_init_33 : decode cX2_init 33 = .ok (.newarray .int, 2) := by decide +kernel
theorem dX2_init_35 : decode cX2_init 35 = .ok (.putfield 21, 3) := by decide +kernel
theorem dX2_init_38 : decode cX2_init 38 = .ok (.aload_n 0, 1) := by decide +kernel
theorem dX2_init_39 : decode cX2_init 39 = .ok (.bipush 56, 2) := by decide +kernel
theorem dX2_init_41 : decode cX2_init 41 = .ok (.newarray .int, 2) := by decide +kernel
theorem dX2_init_43 : decode cX2_init 43 = .ok (.putfield 24, 3) := by decide +kernel
theorem dX2_init_46 : decode cX2_init 46 = .ok (.iconst 0, 1) := by decide +kernel
theorem dX2_init_47 : decode cX2_init 47 = .ok (.istore_n 1, 1) := by decide +kernel
theorem dX2_init_48 : decode cX2_init 48 = .ok (.iload_n 1, 1) := by decide +kernel
theorem dX2_init_49 : decode cX2_init 49 = .ok (.bipush 56, 2) := by decide +kernel
theorem dX2_init_51 : decode cX2_init 51 = .ok (.if_icmp .ge 233, 3) := by decide +kernel
theorem dX2_init_54 : decode cX2_init 54 = .ok (.getstatic 27, 3) := by decide +kernel
theorem dX2_init_57 : decode cX2_init 57 = .ok (.iload_n 1, 1) := by decide +kernel
theorem dX2_init_58 : decode cX2_init 58 = .ok (.iaload, 1) := by decide +kernel
theorem dX2_init_59 : decode cX2_init 59 = .ok (.sipush 10000, 3) := by decide +kernel
theorem dX2_init_62 : decode cX2_init 62 = .ok (.idiv, 1) := by decide +kernel
theorem dX2_init_63 : decode cX2_init 63 = .ok (.istore_n 2, 1) := by decide +kernel
theorem dX2_init_64 : decode cX2_init 64 = .ok (.aload_n 0, 1) := by decide +kernel
theorem dX2_init_65 : decode cX2_init 65 = .ok (.getfield 11, 3) := by decide +kernel
theorem dX2_init_68 : decode cX2_init 68 = .ok (.iload_n 1, 1) := by decide +kernel
theorem dX2_init_69 : decode cX2_init 69 = .ok (.iload_n 2, 1) := by decide +kernel
theorem dX2_init_70 : decode cX2_init 70 = .ok (.iastore, 1) := by decide +kernel
theorem dX2_init_71 : decode cX2_init 71 = .ok (.aload_n 0, 1) := by decide +kernel
theorem dX2_init_72 : decode cX2_init 72 = .ok (.getfield 15, 3) := by decide +kernel
theorem dX2_init_75 : decode cX2_init 75 = .ok (.iload_n 1, 1) := by decide +kernel
theorem dX2_init_76 : decode cX2_init 76 = .ok (.iconst 4, 1) := by decide +kernel
theorem dX2_init_77 : decode cX2_init 77 = .ok (.iastore, 1) := by decide +kernel
theorem dX2_init_78 : decode cX2_init 78 = .ok (.aload_n 0, 1) := by decide +kernel
theorem dX2_init_79 : decode cX2_init 79 = .ok (.getfield 24, 3) := by decide +kernel
theorem dX2_init_82 : decode cX2_init 82 = .ok (.iload_n 1, 1) := by decide +kernel
theorem dX2_init_83 : decode cX2_init 83 = .ok (.iload_n 1, 1) := by decide +kernel
theorem dX2_init_84 : decode cX2_init 84 = .ok (.iastore, 1) := by decide +kernel
theorem dX2_init_85 : decode cX2_init 85 = .ok (.aload_n 0, 1) := by decide +kernel
theorem dX2_init_86 : decode cX2_init 86 = .ok (.getfield 21, 3) := by decide +kernel
theorem dX2_init_89 : decode cX2_init 89 = .ok (.iconst 5, 1) := by decide +kernel
theorem dX2_init_90 : decode cX2_init 90 = .ok (.iload_n 1, 1) := by decide +kernel
theorem dX2_init_91 : decode cX2_init 91 = .ok (.imul, 1) := by decide +kernel
theorem dX2_init_92 : decode cX2_init 92 = .ok (.iconst 4, 1) := by decide +kernel
theorem dX2_init_93 : decode cX2_init 93 = .ok (.iadd, 1) := by decide +kernel
theorem dX2_init_94 : decode cX2_init 94 = .ok (.iload_n 2, 1) := by decide +kernel
theorem dX2_init_95 : decode cX2_init 95 = .ok (.ifCond .le 19, 3) := by decide +kernel
theorem dX2_init_98 : decode cX2_init 98 = .ok (.aload_n 0, 1) := by decide +kernel
theorem dX2_init_99 : decode cX2_init 99 = .ok (.getstatic 27, 3) := by decide +kernel
theorem dX2_init_102 : decode cX2_init 102 = .ok (.iload_n 1, 1) := by decide +kernel
theorem dX2_init_103 : decode cX2_init 103 = .ok (.iaload, 1) := by decide +kernel
theorem dX2_init_104 : decode cX2_init 104 = .ok (.sipush 10000, 3) := by decide +kernel
theorem dX2_init_107 : decode cX2_init 107 = .ok (.isub, 1) := by decide +kernel
theorem dX2_init_108 : decode cX2_init 108 = .ok (.invokevirtual 30, 3) := by decide +kernel
theorem dX2_init_111 : decode cX2_init 111 = .ok (.goto 4, 3) := by decide +kernel
theorem dX2_init_114 : decode cX2_init 114 = .ok (.iload_n 1, 1) := by decide +kernel
theorem dX2_init_115 : decode cX2_init 115 = .ok (.iastore, 1) := by decide +kernel
theorem dX2_init_116 : decode cX2_init 116 = .ok (.getstatic 27, 3) := by decide +kernel
theorem dX2_init_119 : decode cX2_init 119 = .ok (.iload_n 1, 1) := by decide +kernel
theorem dX2_init_120 : decode cX2_init 120 = .ok (.iaload, 1) := by decide +kernel
theorem dX2_init_121 : decode cX2_init 121 = .ok (.istore_n 3, 1) := by decide +kernel
theorem dX2_init_122 : decode cX2_init 122 = .ok (.iconst 1, 1) := by decide +kernel
theorem dX2_init_123 : decode cX2_init 123 = .ok (.istore 4, 2) := by decide +kernel
theorem dX2_init_125 : decode cX2_init 125 = .ok (.iconst 3, 1) := by decide +kernel
theorem dX2_init_126 : decode cX2_init 126 = .ok (.istore 5, 2) := by decide +kernel
theorem dX2_init_128 : decode cX2_init 128 = .ok (.iload 5, 2) := by decide +kernel
theorem dX2_init_130 : decode cX2_init 130 = .ok (.ifCond .lt 106, 3) := by decide +kernel
theorem dX2_init_133 : decode cX2_init 133 = .ok (.aload_n 0, 1) := by decide +kernel
theorem dX2_init_134 : decode cX2_init 134 = .ok (.getfield 18, 3) := by decide +kernel
theorem dX2_init_137 : decode cX2_init 137 = .ok (.iconst 5, 1) := by decide +kernel
theorem dX2_init_138 : decode cX2_init 138 = .ok (.iload_n 1, 1) := by decide +kernel
theorem dX2_init_139 : decode cX2_init 139 = .ok (.imul, 1) := by decide +kernel
theorem dX2_init_140 : decode cX2_init 140 = .ok (.iload 5, 2) := by decide +kernel
theorem dX2_init_142 : decode cX2_init 142 = .ok (.iadd, 1) := by decide +kernel
theorem dX2_init_143 : decode cX2_init 143 = .ok (.iconst 1, 1) := by decide +kernel
theorem dX2_init_144 : decode cX2_init 144 = .ok (.iadd, 1) := by decide +kernel
theorem dX2_init_145 : decode cX2_init 145 = .ok (.iload_n 3, 1) := by decide +kernel
theorem dX2_init_146 : decode cX2_init 146 = .ok (.bipush 10, 2) := by decide +kernel
theorem dX2_init_148 : decode cX2_init 148 = .ok (.irem, 1) := by decide +kernel
theorem dX2_init_149 : decode cX2_init 149 = .ok (.iastore, 1) := by decide +kernel
theorem dX2_init_150 : decode cX2_init 150 = .ok (.iload_n 3, 1) := by decide +kernel
theorem dX2_init_151 : decode cX2_init 151 = .ok (.bipush 10, 2) := by decide +kernel
theorem dX2_init_153 : decode cX2_init 153 = .ok (.irem, 1) := by decide +kernel
theorem dX2_init_154 : decode cX2_init 154 = .ok (.ifCond .le 29, 3) := by decide +kernel
theorem dX2_init_157 : decode cX2_init 157 = .ok (.aload_n 0, 1) := by decide +kernel
theorem dX2_init_158 : decode cX2_init 158 = .ok (.getfield 15, 3) := by decide +kernel
theorem dX2_init_161 : decode cX2_init 161 = .ok (.iload_n 1, 1) := by decide +kernel
theorem dX2_init_162 : decode cX2_init 162 = .ok (.iload 5, 2) := by decide +kernel
theorem dX2_init_164 : decode cX2_init 164 = .ok (.iastore, 1) := by decide +kernel
theorem dX2_init_165 : decode cX2_init 165 = .ok (.aload_n 0, 1) := by decide +kernel
theorem dX2_init_166 : decode cX2_init 166 = .ok (.getfield 24, 3) := by decide +kernel
theorem dX2_init_169 : decode cX2_init 169 = .ok (.iload_n 1, 1) := by decide +kernel
theorem dX2_init_170 : decode cX2_init 170 = .ok (.aload_n 0, 1) := by decide +kernel
theorem dX2_init_171 : decode cX2_init 171 = .ok (.getstatic 27, 3) := by decide +kernel
theorem dX2_init_174 : decode cX2_init 174 = .ok (.iload_n 1, 1) := by decide +kernel
theorem dX2_init_175 : decode cX2_init 175 = .ok (.iaload, 1) := by decide +kernel
theorem dX2_init_176 : decode cX2_init 176 = .ok (.iload 4, 2) := by decide +kernel
theorem dX2_init_178 : decode cX2_init 178 = .ok (.isub, 1) := by decide +kernel
theorem dX2_init_179 : decode cX2_init 179 = .ok (.invokevirtual 30, 3) := by decide +kernel
theorem dX2_init_182 : decode cX2_init 182 = .ok (.iastore, 1) := by decide +kernel
theorem dX2_init_183 : decode cX2_init 183 = .ok (.aload_n 0, 1) := by decide +kernel
theorem dX2_init_184 : decode cX2_init 184 = .ok (.getfield 21, 3) := by decide +kernel
theorem dX2_init_187 : decode cX2_init 187 = .ok (.iconst 5, 1) := by decide +kernel
theorem dX2_init_188 : decode cX2_init 188 = .ok (.iload_n 1, 1) := by decide +kernel
theorem dX2_init_189 : decode cX2_init 189 = .ok (.imul, 1) := by decide +kernel
theorem dX2_init_190 : decode cX2_init 190 = .ok (.iload 5, 2) := by decide +kernel
theorem dX2_init_192 : decode cX2_init 192 = .ok (.iadd, 1) := by decide +kernel
theorem dX2_init_193 : decode cX2_init 193 = .ok (.iload_n 2, 1) := by decide +kernel
theorem dX2_init_194 : decode cX2_init 194 = .ok (.ifCond .le 22, 3) := by decide +kernel
theorem dX2_init_197 : decode cX2_init 197 = .ok (.aload_n 0, 1) := by decide +kernel
theorem dX2_init_198 : decode cX2_init 198 = .ok (.getstatic 27, 3) := by decide +kernel
theorem dX2_init_201 : decode cX2_init 201 = .ok (.iload_n 1, 1) := by decide +kernel
theorem dX2_init_202 : decode cX2_init 202 = .ok (.iaload, 1) := by decide +kernel
theorem dX2_init_203 : decode cX2_init 203 = .ok (.sipush 10000, 3) := by decide +kernel
theorem dX2_init_206 : decode cX2_init 206 = .ok (.isub, 1) := by decide +kernel
theorem dX2_init_207 : decode cX2_init 207 = .ok (.iload 4, 2) := by decide +kernel
theorem dX2_init_209 : decode cX2_init 209 = .ok (.iadd, 1) := by decide +kernel
theorem dX2_init_210 : decode cX2_init 210 = .ok (.invokevirtual 30, 3) := by decide +kernel
theorem dX2_init_213 : decode cX2_init 213 = .ok (.goto 4, 3) := by decide +kernel
theorem dX2_init_216 : decode cX2_init 216 = .ok (.iload_n 1, 1) := by decide +kernel
theorem dX2_init_217 : decode cX2_init 217 = .ok (.iastore, 1) := by decide +kernel
theorem dX2_init_218 : decode cX2_init 218 = .ok (.iload_n 3, 1) := by decide +kernel
theorem dX2_init_219 : decode cX2_init 219 = .ok (.bipush 10, 2) := by decide +kernel
theorem dX2_init_221 : decode cX2_init 221 = .ok (.idiv, 1) := by decide +kernel
theorem dX2_init_222 : decode cX2_init 222 = .ok (.istore_n 3, 1) := by decide +kernel
theorem dX2_init_223 : decode cX2_init 223 = .ok (.iload 4, 2) := by decide +kernel
theorem dX2_init_225 : decode cX2_init 225 = .ok (.bipush 10, 2) := by decide +kernel
theorem dX2_init_227 : decode cX2_init 227 = .ok (.imul, 1) := by decide +kernel
theorem dX2_init_228 : decode cX2_init 228 = .ok (.istore 4, 2) := by decide +kernel
theorem dX2_init_230 : decode cX2_init 230 = .ok (.iinc 5 (-1), 3) := by decide +kernel
theorem dX2_init_233 : decode cX2_init 233 = .ok (.goto (-105), 3) := by decide +kernel
theorem dX2_init_236 : decode cX2_init 236 = .ok (.iconst 1, 1) := by decide +kernel
theorem dX2_init_237 : decode cX2_init 237 = .ok (.istore 5, 2) := by decide +kernel
theorem dX2_init_239 : decode cX2_init 239 = .ok (.iload 5, 2) := by decide +kernel
theorem dX2_init_241 : decode cX2_init 241 = .ok (.iconst 4, 1) := by decide +kernel
theorem dX2_init_242 : decode cX2_init 242 = .ok (.if_icmp .gt 36, 3) := by decide +kernel
theorem dX2_init_245 : decode cX2_init 245 = .ok (.aload_n 0, 1) := by decide +kernel
theorem dX2_init_246 : decode cX2_init 246 = .ok (.getfield 18, 3) := by decide +kernel
theorem dX2_init_249 : decode cX2_init 249 = .ok (.iconst 5, 1) := by decide +kernel
theorem dX2_init_250 : decode cX2_init 250 = .ok (.iload_n 1, 1) := by decide +kernel
theorem dX2_init_251 : decode cX2_init 251 = .ok (.imul, 1) := by decide +kernel
theorem dX2_init_252 : decode cX2_init 252 = .ok (.iload 5, 2) := by decide +kernel
theorem dX2_init_254 : decode cX2_init 254 = .ok (.iadd, 1) := by decide +kernel
theorem dX2_init_255 : decode cX2_init 255 = .ok (.dup2, 1) := by decide +kernel
theorem dX2_init_256 : decode cX2_init 256 = .ok (.iaload, 1) := by decide +kernel
theorem dX2_init_257 : decode cX2_init 257 = .ok (.aload_n 0, 1) := by decide +kernel
theorem dX2_init_258 : decode cX2_init 258 = .ok (.getfield 18, 3) := by decide +kernel
theorem dX2_init_261 : decode cX2_init 261 = .ok (.iconst 5, 1) := by decide +kernel
theorem dX2_init_262 : decode cX2_init 262 = .ok (.iload_n 1, 1) := by decide +kernel
theorem dX2_init_263 : decode cX2_init 263 = .ok (.imul, 1) := by decide +kernel
theorem dX2_init_264 : decode cX2_init 264 = .ok (.iload 5, 2) := by decide +kernel
theorem dX2_init_266 : decode cX2_init 266 = .ok (.iadd, 1) := by decide +kernel
theorem dX2_init_267 : decode cX2_init 267 = .ok (.iconst 1, 1) := by decide +kernel
theorem dX2_init_268 : decode cX2_init 268 = .ok (.isub, 1) := by decide +kernel
theorem dX2_init_269 : decode cX2_init 269 = .ok (.iaload, 1) := by decide +kernel
theorem dX2_init_270 : decode cX2_init 270 = .ok (.iadd, 1) := by decide +kernel
theorem dX2_init_271 : decode cX2_init 271 = .ok (.iastore, 1) := by decide +kernel
theorem dX2_init_272 : decode cX2_init 272 = .ok (.iinc 5 1, 3) := by decide +kernel
theorem dX2_init_275 : decode cX2_init 275 = .ok (.goto (-36), 3) := by decide +kernel
theorem dX2_init_278 : decode cX2_init 278 = .ok (.iinc 1 1, 3) := by decide +kernel
theorem dX2_init_281 : decode cX2_init 281 = .ok (.goto (-233), 3) := by decide +kernel
theorem dX2_init_284 : decode cX2_init 284 = .ok (.return_, 1) := by decide +kernel
theorem dX2_codeAt_0 : decode cX2_codeAt 0 = .ok (.getstatic 27, 3) := by decide +kernel
theorem dX2_codeAt_3 : decode cX2_codeAt 3 = .ok (.iload_n 1, 1) := by decide +kernel
theorem dX2_codeAt_4 : decode cX2_codeAt 4 = .ok (.invokestatic 34, 3) := by decide +kernel
theorem dX2_codeAt_7 : decode cX2_codeAt 7 = .ok (.ireturn, 1) := by decide +kernel
theorem dX2_placeOf_0 : decode cX2_placeOf 0 = .ok (.iconst 0, 1) := by decide +kernel
theorem dX2_placeOf_1 : decode cX2_placeOf 1 = .ok (.istore_n 2, 1) := by decide +kernel
theorem dX2_placeOf_2 : decode cX2_placeOf 2 = .ok (.bipush 55, 2) := by decide +kernel
theorem dX2_placeOf_4 : decode cX2_placeOf 4 = .ok (.istore_n 3, 1) := by decide +kernel
theorem dX2_placeOf_5 : decode cX2_placeOf 5 = .ok (.iconst 0, 1) := by decide +kernel
theorem dX2_placeOf_6 : decode cX2_placeOf 6 = .ok (.istore 4, 2) := by decide +kernel
theorem dX2_placeOf_8 : decode cX2_placeOf 8 = .ok (.iload 4, 2) := by decide +kernel
theorem dX2_placeOf_10 : decode cX2_placeOf 10 = .ok (.bipush 56, 2) := by decide +kernel
theorem dX2_placeOf_12 : decode cX2_placeOf 12 = .ok (.if_icmp .ge 44, 3) := by decide +kernel
theorem dX2_placeOf_15 : decode cX2_placeOf 15 = .ok (.iload_n 2, 1) := by decide +kernel
theorem dX2_placeOf_16 : decode cX2_placeOf 16 = .ok (.iload_n 3, 1) := by decide +kernel
theorem dX2_placeOf_17 : decode cX2_placeOf 17 = .ok (.if_icmp .ge 39, 3) := by decide +kernel
theorem dX2_placeOf_20 : decode cX2_placeOf 20 = .ok (.iload_n 2, 1) := by decide +kernel
theorem dX2_placeOf_21 : decode cX2_placeOf 21 = .ok (.iload_n 3, 1) := by decide +kernel
theorem dX2_placeOf_22 : decode cX2_placeOf 22 = .ok (.iadd, 1) := by decide +kernel
theorem dX2_placeOf_23 : decode cX2_placeOf 23 = .ok (.iconst 2, 1) := by decide +kernel
theorem dX2_placeOf_24 : decode cX2_placeOf 24 = .ok (.idiv, 1) := by decide +kernel
theorem dX2_placeOf_25 : decode cX2_placeOf 25 = .ok (.istore 5, 2) := by decide +kernel
theorem dX2_placeOf_27 : decode cX2_placeOf 27 = .ok (.getstatic 27, 3) := by decide +kernel
theorem dX2_placeOf_30 : decode cX2_placeOf 30 = .ok (.iload 5, 2) := by decide +kernel
theorem dX2_placeOf_32 : decode cX2_placeOf 32 = .ok (.invokestatic 34, 3) := by decide +kernel
theorem dX2_placeOf_35 : decode cX2_placeOf 35 = .ok (.iload_n 1, 1) := by decide +kernel
theorem dX2_placeOf_36 : decode cX2_placeOf 36 = .ok (.if_icmp .ge 11, 3) := by decide +kernel
theorem dX2_placeOf_39 : decode cX2_placeOf 39 = .ok (.iload 5, 2) := by decide +kernel
theorem dX2_placeOf_41 : decode cX2_placeOf 41 = .ok (.iconst 1, 1) := by decide +kernel
theorem dX2_placeOf_42 : decode cX2_placeOf 42 = .ok (.iadd, 1) := by decide +kernel
theorem dX2_placeOf_43 : decode cX2_placeOf 43 = .ok (.istore_n 2, 1) := by decide +kernel
theorem dX2_placeOf_44 : decode cX2_placeOf 44 = .ok (.goto 6, 3) := by decide +kernel
theorem dX2_placeOf_47 : decode cX2_placeOf 47 = .ok (.iload 5, 2) := by decide +kernel
theorem dX2_placeOf_49 : decode cX2_placeOf 49 = .ok (.istore_n 3, 1) := by decide +kernel
theorem dX2_placeOf_50 : decode cX2_placeOf 50 = .ok (.iinc 4 1, 3) := by decide +kernel
theorem dX2_placeOf_53 : decode cX2_placeOf 53 = .ok (.goto (-45), 3) := by decide +kernel
theorem dX2_placeOf_56 : decode cX2_placeOf 56 = .ok (.getstatic 27, 3) := by decide +kernel
theorem dX2_placeOf_59 : decode cX2_placeOf 59 = .ok (.iload_n 2, 1) := by decide +kernel
theorem dX2_placeOf_60 : decode cX2_placeOf 60 = .ok (.invokestatic 34, 3) := by decide +kernel
theorem dX2_placeOf_63 : decode cX2_placeOf 63 = .ok (.iload_n 1, 1) := by decide +kernel
theorem dX2_placeOf_64 : decode cX2_placeOf 64 = .ok (.if_icmp .ne 7, 3) := by decide +kernel
theorem dX2_placeOf_67 : decode cX2_placeOf 67 = .ok (.iload_n 2, 1) := by decide +kernel
theorem dX2_placeOf_68 : decode cX2_placeOf 68 = .ok (.goto 4, 3) := by decide +kernel
theorem dX2_placeOf_71 : decode cX2_placeOf 71 = .ok (.iconst (-1), 1) := by decide +kernel
theorem dX2_placeOf_72 : decode cX2_placeOf 72 = .ok (.ireturn, 1) := by decide +kernel
theorem dX2_handOf_0 : decode cX2_handOf 0 = .ok (.aload_n 0, 1) := by decide +kernel
theorem dX2_handOf_1 : decode cX2_handOf 1 = .ok (.getfield 11, 3) := by decide +kernel
theorem dX2_handOf_4 : decode cX2_handOf 4 = .ok (.iload_n 1, 1) := by decide +kernel
theorem dX2_handOf_5 : decode cX2_handOf 5 = .ok (.invokestatic 34, 3) := by decide +kernel
theorem dX2_handOf_8 : decode cX2_handOf 8 = .ok (.ireturn, 1) := by decide +kernel
theorem dX2_bestRingOf_0 : decode cX2_bestRingOf 0 = .ok (.aload_n 0, 1) := by decide +kernel
theorem dX2_bestRingOf_1 : decode cX2_bestRingOf 1 = .ok (.getfield 15, 3) := by decide +kernel
theorem dX2_bestRingOf_4 : decode cX2_bestRingOf 4 = .ok (.iload_n 1, 1) := by decide +kernel
theorem dX2_bestRingOf_5 : decode cX2_bestRingOf 5 = .ok (.invokestatic 34, 3) := by decide +kernel
theorem dX2_bestRingOf_8 : decode cX2_bestRingOf 8 = .ok (.ireturn, 1) := by decide +kernel
theorem dX2_lyingOf_0 : decode cX2_lyingOf 0 = .ok (.aload_n 0, 1) := by decide +kernel
theorem dX2_lyingOf_1 : decode cX2_lyingOf 1 = .ok (.getfield 18, 3) := by decide +kernel
theorem dX2_lyingOf_4 : decode cX2_lyingOf 4 = .ok (.iconst 5, 1) := by decide +kernel
theorem dX2_lyingOf_5 : decode cX2_lyingOf 5 = .ok (.iload_n 1, 1) := by decide +kernel
theorem dX2_lyingOf_6 : decode cX2_lyingOf 6 = .ok (.imul, 1) := by decide +kernel
theorem dX2_lyingOf_7 : decode cX2_lyingOf 7 = .ok (.iconst 4, 1) := by decide +kernel
theorem dX2_lyingOf_8 : decode cX2_lyingOf 8 = .ok (.iadd, 1) := by decide +kernel
theorem dX2_lyingOf_9 : decode cX2_lyingOf 9 = .ok (.invokestatic 34, 3) := by decide +kernel
theorem dX2_lyingOf_12 : decode cX2_lyingOf 12 = .ok (.ireturn, 1) := by decide +kernel
theorem dX2_whoPlays_0 : decode cX2_whoPlays 0 = .ok (.aload_n 0, 1) := by decide +kernel
theorem dX2_whoPlays_1 : decode cX2_whoPlays 1 = .ok (.iload_n 1, 1) := by decide +kernel
theorem dX2_whoPlays_2 : decode cX2_whoPlays 2 = .ok (.invokevirtual 38, 3) := by decide +kernel
theorem dX2_whoPlays_5 : decode cX2_whoPlays 5 = .ok (.ifCond .ne 13, 3) := by decide +kernel
theorem dX2_whoPlays_8 : decode cX2_whoPlays 8 = .ok (.aload_n 0, 1) := by decide +kernel
theorem dX2_whoPlays_9 : decode cX2_whoPlays 9 = .ok (.iload_n 2, 1) := by decide +kernel
theorem dX2_whoPlays_10 : decode cX2_whoPlays 10 = .ok (.invokevirtual 38, 3) := by decide +kernel
theorem dX2_whoPlays_13 : decode cX2_whoPlays 13 = .ok (.ifCond .ne 5, 3) := by decide +kernel
theorem dX2_whoPlays_16 : decode cX2_whoPlays 16 = .ok (.iconst 2, 1) := by decide +kernel
theorem dX2_whoPlays_17 : decode cX2_whoPlays 17 = .ok (.ireturn, 1) := by decide +kernel
theorem dX2_whoPlays_18 : decode cX2_whoPlays 18 = .ok (.iconst 1, 1) := by decide +kernel
theorem dX2_whoPlays_19 : decode cX2_whoPlays 19 = .ok (.iload_n 3, 1) := by decide +kernel
theorem dX2_whoPlays_20 : decode cX2_whoPlays 20 = .ok (.isub, 1) := by decide +kernel
theorem dX2_whoPlays_21 : decode cX2_whoPlays 21 = .ok (.istore 4, 2) := by decide +kernel
theorem dX2_whoPlays_23 : decode cX2_whoPlays 23 = .ok (.aload_n 0, 1) := by decide +kernel
theorem dX2_whoPlays_24 : decode cX2_whoPlays 24 = .ok (.iload_n 1, 1) := by decide +kernel
theorem dX2_whoPlays_25 : decode cX2_whoPlays 25 = .ok (.invokevirtual 41, 3) := by decide +kernel
theorem dX2_whoPlays_28 : decode cX2_whoPlays 28 = .ok (.aload_n 0, 1) := by decide +kernel
theorem dX2_whoPlays_29 : decode cX2_whoPlays 29 = .ok (.iload_n 2, 1) := by decide +kernel
theorem dX2_whoPlays_30 : decode cX2_whoPlays 30 = .ok (.invokevirtual 41, 3) := by decide +kernel
theorem dX2_whoPlays_33 : decode cX2_whoPlays 33 = .ok (.if_icmp .eq 23, 3) := by decide +kernel
theorem dX2_whoPlays_36 : decode cX2_whoPlays 36 = .ok (.aload_n 0, 1) := by decide +kernel
theorem dX2_whoPlays_37 : decode cX2_whoPlays 37 = .ok (.iload_n 1, 1) := by decide +kernel
theorem dX2_whoPlays_38 : decode cX2_whoPlays 38 = .ok (.invokevirtual 41, 3) := by decide +kernel
theorem dX2_whoPlays_41 : decode cX2_whoPlays 41 = .ok (.aload_n 0, 1) := by decide +kernel
theorem dX2_whoPlays_42 : decode cX2_whoPlays 42 = .ok (.iload_n 2, 1) := by decide +kernel
theorem dX2_whoPlays_43 : decode cX2_whoPlays 43 = .ok (.invokevirtual 41, 3) := by decide +kernel
theorem dX2_whoPlays_46 : decode cX2_whoPlays 46 = .ok (.if_icmp .le 7, 3) := by decide +kernel
theorem dX2_whoPlays_49 : decode cX2_whoPlays 49 = .ok (.iconst 0, 1) := by decide +kernel
theorem dX2_whoPlays_50 : decode cX2_whoPlays 50 = .ok (.goto 4, 3) := by decide +kernel
theorem dX2_whoPlays_53 : decode cX2_whoPlays 53 = .ok (.iconst 1, 1) := by decide +kernel
theorem dX2_whoPlays_54 : decode cX2_whoPlays 54 = .ok (.istore 4, 2) := by decide +kernel
theorem dX2_whoPlays_56 : decode cX2_whoPlays 56 = .ok (.aload_n 0, 1) := by decide +kernel
theorem dX2_whoPlays_57 : decode cX2_whoPlays 57 = .ok (.iload 4, 2) := by decide +kernel
theorem dX2_whoPlays_59 : decode cX2_whoPlays 59 = .ok (.ifCond .ne 7, 3) := by decide +kernel
theorem dX2_whoPlays_62 : decode cX2_whoPlays 62 = .ok (.iload_n 1, 1) := by decide +kernel
theorem dX2_whoPlays_63 : decode cX2_whoPlays 63 = .ok (.goto 4, 3) := by decide +kernel
theorem dX2_whoPlays_66 : decode cX2_whoPlays 66 = .ok (.iload_n 2, 1) := by decide +kernel
theorem dX2_whoPlays_67 : decode cX2_whoPlays 67 = .ok (.invokevirtual 38, 3) := by decide +kernel
theorem dX2_whoPlays_70 : decode cX2_whoPlays 70 = .ok (.ifCond .le 8, 3) := by decide +kernel
theorem dX2_whoPlays_73 : decode cX2_whoPlays 73 = .ok (.iload 4, 2) := by decide +kernel
theorem dX2_whoPlays_75 : decode cX2_whoPlays 75 = .ok (.goto 7, 3) := by decide +kernel
theorem dX2_whoPlays_78 : decode cX2_whoPlays 78 = .ok (.iconst 1, 1) := by decide +kernel
theorem dX2_whoPlays_79 : decode cX2_whoPlays 79 = .ok (.iload 4, 2) := by decide +kernel
theorem dX2_whoPlays_81 : decode cX2_whoPlays 81 = .ok (.isub, 1) := by decide +kernel
theorem dX2_whoPlays_82 : decode cX2_whoPlays 82 = .ok (.ireturn, 1) := by decide +kernel
theorem dX2_pointsNow_0 : decode cX2_pointsNow 0 = .ok (.aload_n 0, 1) := by decide +kernel
theorem dX2_pointsNow_1 : decode cX2_pointsNow 1 = .ok (.iload_n 1, 1) := by decide +kernel
theorem dX2_pointsNow_2 : decode cX2_pointsNow 2 = .ok (.invokevirtual 41, 3) := by decide +kernel
theorem dX2_pointsNow_5 : decode cX2_pointsNow 5 = .ok (.aload_n 0, 1) := by decide +kernel
theorem dX2_pointsNow_6 : decode cX2_pointsNow 6 = .ok (.iload_n 2, 1) := by decide +kernel
theorem dX2_pointsNow_7 : decode cX2_pointsNow 7 = .ok (.invokevirtual 41, 3) := by decide +kernel
theorem dX2_pointsNow_10 : decode cX2_pointsNow 10 = .ok (.if_icmp .gt 37, 3) := by decide +kernel
theorem dX2_pointsNow_13 : decode cX2_pointsNow 13 = .ok (.aload_n 0, 1) := by decide +kernel
theorem dX2_pointsNow_14 : decode cX2_pointsNow 14 = .ok (.iload_n 1, 1) := by decide +kernel
theorem dX2_pointsNow_15 : decode cX2_pointsNow 15 = .ok (.invokevirtual 41, 3) := by decide +kernel
theorem dX2_pointsNow_18 : decode cX2_pointsNow 18 = .ok (.aload_n 0, 1) := by decide +kernel
theorem dX2_pointsNow_19 : decode cX2_pointsNow 19 = .ok (.iload_n 2, 1) := by decide +kernel
theorem dX2_pointsNow_20 : decode cX2_pointsNow 20 = .ok (.invokevirtual 41, 3) := by decide +kernel
theorem dX2_pointsNow_23 : decode cX2_pointsNow 23 = .ok (.if_icmp .ne 7, 3) := by decide +kernel
theorem dX2_pointsNow_26 : decode cX2_pointsNow 26 = .ok (.iconst 0, 1) := by decide +kernel
theorem dX2_pointsNow_27 : decode cX2_pointsNow 27 = .ok (.goto 19, 3) := by decide +kernel
theorem dX2_pointsNow_30 : decode cX2_pointsNow 30 = .ok (.aload_n 0, 1) := by decide +kernel
theorem dX2_pointsNow_31 : decode cX2_pointsNow 31 = .ok (.getfield 18, 3) := by decide +kernel
theorem dX2_pointsNow_34 : decode cX2_pointsNow 34 = .ok (.iconst 5, 1) := by decide +kernel
theorem dX2_pointsNow_35 : decode cX2_pointsNow 35 = .ok (.iload_n 1, 1) := by decide +kernel
theorem dX2_pointsNow_36 : decode cX2_pointsNow 36 = .ok (.imul, 1) := by decide +kernel
theorem dX2_pointsNow_37 : decode cX2_pointsNow 37 = .ok (.aload_n 0, 1) := by decide +kernel
theorem dX2_pointsNow_38 : decode cX2_pointsNow 38 = .ok (.iload_n 2, 1) := by decide +kernel
theorem dX2_pointsNow_39 : decode cX2_pointsNow 39 = .ok (.invokevirtual 41, 3) := by decide +kernel
theorem dX2_pointsNow_42 : decode cX2_pointsNow 42 = .ok (.iadd, 1) := by decide +kernel
theorem dX2_pointsNow_43 : decode cX2_pointsNow 43 = .ok (.invokestatic 34, 3) := by decide +kernel
theorem dX2_pointsNow_46 : decode cX2_pointsNow 46 = .ok (.ireturn, 1) := by decide +kernel
theorem dX2_pointsNow_47 : decode cX2_pointsNow 47 = .ok (.aload_n 0, 1) := by decide +kernel
theorem dX2_pointsNow_48 : decode cX2_pointsNow 48 = .ok (.getfield 18, 3) := by decide +kernel
theorem dX2_pointsNow_51 : decode cX2_pointsNow 51 = .ok (.iconst 5, 1) := by decide +kernel
theorem dX2_pointsNow_52 : decode cX2_pointsNow 52 = .ok (.iload_n 2, 1) := by decide +kernel
theorem dX2_pointsNow_53 : decode cX2_pointsNow 53 = .ok (.imul, 1) := by decide +kernel
theorem dX2_pointsNow_54 : decode cX2_pointsNow 54 = .ok (.aload_n 0, 1) := by decide +kernel
theorem dX2_pointsNow_55 : decode cX2_pointsNow 55 = .ok (.iload_n 1, 1) := by decide +kernel
theorem dX2_pointsNow_56 : decode cX2_pointsNow 56 = .ok (.invokevirtual 41, 3) := by decide +kernel
theorem dX2_pointsNow_59 : decode cX2_pointsNow 59 = .ok (.iadd, 1) := by decide +kernel
theorem dX2_pointsNow_60 : decode cX2_pointsNow 60 = .ok (.invokestatic 34, 3) := by decide +kernel
theorem dX2_pointsNow_63 : decode cX2_pointsNow 63 = .ok (.ineg, 1) := by decide +kernel
theorem dX2_pointsNow_64 : decode cX2_pointsNow 64 = .ok (.ireturn, 1) := by decide +kernel
theorem dX2_canShoot_0 : decode cX2_canShoot 0 = .ok (.aload_n 0, 1) := by decide +kernel
theorem dX2_canShoot_1 : decode cX2_canShoot 1 = .ok (.iload_n 3, 1) := by decide +kernel
theorem dX2_canShoot_2 : decode cX2_canShoot 2 = .ok (.ifCond .ne 7, 3) := by decide +kernel
theorem dX2_canShoot_5 : decode cX2_canShoot 5 = .ok (.iload_n 2, 1) := by decide +kernel
theorem dX2_canShoot_6 : decode cX2_canShoot 6 = .ok (.goto 4, 3) := by decide +kernel
theorem dX2_canShoot_9 : decode cX2_canShoot 9 = .ok (.iload_n 1, 1) := by decide +kernel
theorem dX2_canShoot_10 : decode cX2_canShoot 10 = .ok (.invokevirtual 44, 3) := by decide +kernel
theorem dX2_canShoot_13 : decode cX2_canShoot 13 = .ok (.ifCond .le 7, 3) := by decide +kernel
theorem dX2_canShoot_16 : decode cX2_canShoot 16 = .ok (.iconst 1, 1) := by decide +kernel
theorem dX2_canShoot_17 : decode cX2_canShoot 17 = .ok (.goto 4, 3) := by decide +kernel
theorem dX2_canShoot_20 : decode cX2_canShoot 20 = .ok (.iconst 0, 1) := by decide +kernel
theorem dX2_canShoot_21 : decode cX2_canShoot 21 = .ok (.ireturn, 1) := by decide +kernel
theorem dX2_mineBehind_0 : decode cX2_mineBehind 0 = .ok (.iload_n 3, 1) := by decide +kernel
theorem dX2_mineBehind_1 : decode cX2_mineBehind 1 = .ok (.ifCond .ne 7, 3) := by decide +kernel
theorem dX2_mineBehind_4 : decode cX2_mineBehind 4 = .ok (.iload_n 1, 1) := by decide +kernel
theorem dX2_mineBehind_5 : decode cX2_mineBehind 5 = .ok (.goto 4, 3) := by decide +kernel
theorem dX2_mineBehind_8 : decode cX2_mineBehind 8 = .ok (.iload_n 2, 1) := by decide +kernel
theorem dX2_mineBehind_9 : decode cX2_mineBehind 9 = .ok (.istore 5, 2) := by decide +kernel
theorem dX2_mineBehind_11 : decode cX2_mineBehind 11 = .ok (.iload_n 3, 1) := by decide +kernel
theorem dX2_mineBehind_12 : decode cX2_mineBehind 12 = .ok (.ifCond .ne 7, 3) := by decide +kernel
theorem dX2_mineBehind_15 : decode cX2_mineBehind 15 = .ok (.iload_n 2, 1) := by decide +kernel
theorem dX2_mineBehind_16 : decode cX2_mineBehind 16 = .ok (.goto 4, 3) := by decide +kernel
theorem dX2_mineBehind_19 : decode cX2_mineBehind 19 = .ok (.iload_n 1, 1) := by decide +kernel
theorem dX2_mineBehind_20 : decode cX2_mineBehind 20 = .ok (.istore 6, 2) := by decide +kernel
theorem dX2_mineBehind_22 : decode cX2_mineBehind 22 = .ok (.iconst 4, 1) := by decide +kernel
theorem dX2_mineBehind_23 : decode cX2_mineBehind 23 = .ok (.istore 7, 2) := by decide +kernel
theorem dX2_mineBehind_25 : decode cX2_mineBehind 25 = .ok (.iload 4, 2) := by decide +kernel
theorem dX2_mineBehind_27 : decode cX2_mineBehind 27 = .ok (.iconst 4, 1) := by decide +kernel
theorem dX2_mineBehind_28 : decode cX2_mineBehind 28 = .ok (.if_icmp .ge 10, 3) := by decide +kernel
theorem dX2_mineBehind_31 : decode cX2_mineBehind 31 = .ok (.iload 4, 2) := by decide +kernel
theorem dX2_mineBehind_33 : decode cX2_mineBehind 33 = .ok (.istore 7, 2) := by decide +kernel
theorem dX2_mineBehind_35 : decode cX2_mineBehind 35 = .ok (.goto 17, 3) := by decide +kernel
theorem dX2_mineBehind_38 : decode cX2_mineBehind 38 = .ok (.iload 4, 2) := by decide +kernel
theorem dX2_mineBehind_40 : decode cX2_mineBehind 40 = .ok (.iconst 4, 1) := by decide +kernel
theorem dX2_mineBehind_41 : decode cX2_mineBehind 41 = .ok (.if_icmp .ne 11, 3) := by decide +kernel
theorem dX2_mineBehind_44 : decode cX2_mineBehind 44 = .ok (.aload_n 0, 1) := by decide +kernel
theorem dX2_mineBehind_45 : decode cX2_mineBehind 45 = .ok (.iload 6, 2) := by decide +kernel
theorem dX2_mineBehind_47 : decode cX2_mineBehind 47 = .ok (.invokevirtual 41, 3) := by decide +kernel
theorem dX2_mineBehind_50 : decode cX2_mineBehind 50 = .ok (.istore 7, 2) := by decide +kernel
theorem dX2_mineBehind_52 : decode cX2_mineBehind 52 = .ok (.aload_n 0, 1) := by decide +kernel
theorem dX2_mineBehind_53 : decode cX2_mineBehind 53 = .ok (.getfield 21, 3) := by decide +kernel
theorem dX2_mineBehind_56 : decode cX2_mineBehind 56 = .ok (.iconst 5, 1) := by decide +kernel
theorem dX2_mineBehind_57 : decode cX2_mineBehind 57 = .ok (.iload 5, 2) := by decide +kernel
theorem dX2_mineBehind_59 : decode cX2_mineBehind 59 = .ok (.imul, 1) := by decide +kernel
theorem dX2_mineBehind_60 : decode cX2_mineBehind 60 = .ok (.iload 7, 2) := by decide +kernel
theorem dX2_mineBehind_62 : decode cX2_mineBehind 62 = .ok (.iadd, 1) := by decide +kernel
theorem dX2_mineBehind_63 : decode cX2_mineBehind 63 = .ok (.invokestatic 34, 3) := by decide +kernel
theorem dX2_mineBehind_66 : decode cX2_mineBehind 66 = .ok (.ireturn, 1) := by decide +kernel
theorem dX2_theirsBehind_0 : decode cX2_theirsBehind 0 = .ok (.iload_n 3, 1) := by decide +kernel
theorem dX2_theirsBehind_1 : decode cX2_theirsBehind 1 = .ok (.ifCond .ne 7, 3) := by decide +kernel
theorem dX2_theirsBehind_4 : decode cX2_theirsBehind 4 = .ok (.iload_n 2, 1) := by decide +kernel
theorem dX2_theirsBehind_5 : decode cX2_theirsBehind 5 = .ok (.goto 4, 3) := by decide +kernel
theorem dX2_theirsBehind_8 : decode cX2_theirsBehind 8 = .ok (.iload_n 1, 1) := by decide +kernel
theorem dX2_theirsBehind_9 : decode cX2_theirsBehind 9 = .ok (.istore 5, 2) := by decide +kernel
theorem dX2_theirsBehind_11 : decode cX2_theirsBehind 11 = .ok (.iload 4, 2) := by decide +kernel
theorem dX2_theirsBehind_13 : decode cX2_theirsBehind 13 = .ok (.iconst 4, 1) := by decide +kernel
theorem dX2_theirsBehind_14 : decode cX2_theirsBehind 14 = .ok (.if_icmp .eq 9, 3) := by decide +kernel
theorem dX2_theirsBehind_17 : decode cX2_theirsBehind 17 = .ok (.iload 4, 2) := by decide +kernel
theorem dX2_theirsBehind_19 : decode cX2_theirsBehind 19 = .ok (.iconst 5, 1) := by decide +kernel
theorem dX2_theirsBehind_20 : decode cX2_theirsBehind 20 = .ok (.if_icmp .ne 15, 3) := by decide +kernel
theorem dX2_theirsBehind_23 : decode cX2_theirsBehind 23 = .ok (.aload_n 0, 1) := by decide +kernel
theorem dX2_theirsBehind_24 : decode cX2_theirsBehind 24 = .ok (.getfield 24, 3) := by decide +kernel
theorem dX2_theirsBehind_27 : decode cX2_theirsBehind 27 = .ok (.iload 5, 2) := by decide +kernel
theorem dX2_theirsBehind_29 : decode cX2_theirsBehind 29 = .ok (.invokestatic 34, 3) := by decide +kernel
theorem dX2_theirsBehind_32 : decode cX2_theirsBehind 32 = .ok (.goto 5, 3) := by decide +kernel
theorem dX2_theirsBehind_35 : decode cX2_theirsBehind 35 = .ok (.iload 5, 2) := by decide +kernel
theorem dX2_theirsBehind_37 : decode cX2_theirsBehind 37 = .ok (.ireturn, 1) := by decide +kernel
theorem dX3_init_0 : decode cX3_init 0 = .ok (.aload_n 0, 1) := by decide +kernel
theorem dX3_init_1 : decode cX3_init 1 = .ok (.invokespecial 5, 3) := by decide +kernel
theorem dX3_init_4 : decode cX3_init 4 = .ok (.aload_n 0, 1) := by decide +kernel
theorem dX3_init_5 : decode cX3_init 5 = .ok (.new 11, 3) := by decide +kernel
theorem dX3_init_8 : decode cX3_init 8 = .ok (.dup, 1) := by decide +kernel
theorem dX3_init_9 : decode cX3_init 9 = .ok (.invokespecial 13, 3) := by decide +kernel
theorem dX3_init_12 : decode cX3_init 12 = .ok (.putfield 14, 3) := by decide +kernel
theorem dX3_init_15 : decode cX3_init 15 = .ok (.aload_n 0, 1) := by decide +kernel
theorem dX3_init_16 : decode cX3_init 16 = .ok (.new 18, 3) := by decide +kernel
theorem dX3_init_19 : decode cX3_init 19 = .ok (.dup, 1) := by decide +kernel
theorem dX3_init_20 : decode cX3_init 20 = .ok (.invokespecial 20, 3) := by decide +kernel
theorem dX3_init_23 : decode cX3_init 23 = .ok (.putfield 21, 3) := by decide +kernel
theorem dX3_init_26 : decode cX3_init 26 = .ok (.aload_n 0, 1) := by decide +kernel
theorem dX3_init_27 : decode cX3_init 27 = .ok (.iconst 4, 1) := by decide +kernel
theorem dX3_init_28 : decode cX3_init 28 = .ok (.anewarray 18, 3) := by decide +kernel
theorem dX3_init_31 : decode cX3_init 31 = .ok (.dup, 1) := by decide +kernel
theorem dX3_init_32 : decode cX3_init 32 = .ok (.iconst 0, 1) := by decide +kernel
theorem dX3_init_33 : decode cX3_init 33 = .ok (.new 18, 3) := by decide +kernel
theorem dX3_init_36 : decode cX3_init 36 = .ok (.dup, 1) := by decide +kernel
theorem dX3_init_37 : decode cX3_init 37 = .ok (.invokespecial 20, 3) := by decide +kernel
theorem dX3_init_40 : decode cX3_init 40 = .ok (.aastore, 1) := by decide +kernel
theorem dX3_init_41 : decode cX3_init 41 = .ok (.dup, 1) := by decide +kernel
theorem dX3_init_42 : decode cX3_init 42 = .ok (.iconst 1, 1) := by decide +kernel
theorem dX3_init_43 : decode cX3_init 43 = .ok (.new 18, 3) := by decide +kernel
theorem dX3_init_46 : decode cX3_init 46 = .ok (.dup, 1) := by decide +kernel
theorem dX3_init_47 : decode cX3_init 47 = .ok (.invokespecial 20, 3) := by decide +kernel
theorem dX3_init_50 : decode cX3_init 50 = .ok (.aastore, 1) := by decide +kernel
theorem dX3_init_51 : decode cX3_init 51 = .ok (.dup, 1) := by decide +kernel
theorem dX3_init_52 : decode cX3_init 52 = .ok (.iconst 2, 1) := by decide +kernel
theorem dX3_init_53 : decode cX3_init 53 = .ok (.new 18, 3) := by decide +kernel
theorem dX3_init_56 : decode cX3_init 56 = .ok (.dup, 1) := by decide +kernel
theorem dX3_init_57 : decode cX3_init 57 = .ok (.invokespecial 20, 3) := by decide +kernel
theorem dX3_init_60 : decode cX3_init 60 = .ok (.aastore, 1) := by decide +kernel
theorem dX3_init_61 : decode cX3_init 61 = .ok (.dup, 1) := by decide +kernel
theorem dX3_init_62 : decode cX3_init 62 = .ok (.iconst 3, 1) := by decide +kernel
theorem dX3_init_63 : decode cX3_init 63 = .ok (.new 18, 3) := by decide +kernel
theorem dX3_init_66 : decode cX3_init 66 = .ok (.dup, 1) := by decide +kernel
theorem dX3_init_67 : decode cX3_init 67 = .ok (.invokespecial 20, 3) := by decide +kernel
theorem dX3_init_70 : decode cX3_init 70 = .ok (.aastore, 1) := by decide +kernel
theorem dX3_init_71 : decode cX3_init 71 = .ok (.putfield 25, 3) := by decide +kernel
theorem dX3_init_74 : decode cX3_init 74 = .ok (.aload_n 0, 1) := by decide +kernel
theorem dX3_init_75 : decode cX3_init 75 = .ok (.new 29, 3) := by decide +kernel
theorem dX3_init_78 : decode cX3_init 78 = .ok (.dup, 1) := by decide +kernel
theorem dX3_init_79 : decode cX3_init 79 = .ok (.invokespecial 31, 3) := by decide +kernel
theorem dX3_init_82 : decode cX3_init 82 = .ok (.putfield 32, 3) := by decide +kernel
theorem dX3_init_85 : decode cX3_init 85 = .ok (.aload_n 0, 1) := by decide +kernel
theorem dX3_init_86 : decode cX3_init 86 = .ok (.bipush 8, 2) := by decide +kernel
theorem dX3_init_88 : decode cX3_init 88 = .ok (.putfield 36, 3) := by decide +kernel
theorem dX3_init_91 : decode cX3_init 91 = .ok (.aload_n 0, 1) := by decide +kernel
theorem dX3_init_92 : decode cX3_init 92 = .ok (.sipush 3822, 3) := by decide +kernel
theorem dX3_init_95 : decode cX3_init 95 = .ok (.newarray .int, 2) := by decide +kernel
theorem dX3_init_97 : decode cX3_init 97 = .ok (.putfield 40, 3) := by decide +kernel
theorem dX3_init_100 : decode cX3_init 100 = .ok (.aload_n 0, 1) := by decide +kernel
theorem dX3_init_101 : decode cX3_init 101 = .ok (.iconst 0, 1) := by decide +kernel
theorem dX3_init_102 : decode cX3_init 102 = .ok (.putfield 44, 3) := by decide +kernel
theorem dX3_init_105 : decode cX3_init 105 = .ok (.aload_n 0, 1) := by decide +kernel
theorem dX3_init_106 : decode cX3_init 106 = .ok (.sipush 3822, 3) := by decide +kernel
theorem dX3_init_109 : decode cX3_init 109 = .ok (.newarray .long, 2) := by decide +kernel
theorem dX3_init_111 : decode cX3_init 111 = .ok (.putfield 47, 3) := by decide +kernel
theorem dX3_init_114 : decode cX3_init 114 = .ok (.aload_n 0, 1) := by decide +kernel
theorem dX3_init_115 : decode cX3_init 115 = .ok (.bipush 10, 2) := by decide +kernel
theorem dX3_init_117 : decode cX3_init 117 = .ok (.newarray .long, 2) := by decide +kernel
theorem dX3_init_119 : decode cX3_init 119 = .ok (.putfield 51, 3) := by decide +kernel
theorem dX3_init_122 : decode cX3_init 122 = .ok (.aload_n 0, 1) := by decide +kernel
theorem dX3_init_123 : decode cX3_init 123 = .ok (.bipush 14, 2) := by decide +kernel
theorem dX3_init_125 : decode cX3_init 125 = .ok (.newarray .long, 2) := by decide +kernel
theorem dX3_init_127 : decode cX3_init 127 = .ok (.putfield 54, 3) := by decide +kernel
theorem dX3_init_130 : decode cX3_init 130 = .ok (.aload_n 0, 1) := by decide +kernel
theorem dX3_init_131 : decode cX3_init 131 = .ok (.iconst (-1), 1) := by decide +kernel
theorem dX3_init_132 : decode cX3_init 132 = .ok (.putfield 57, 3) := by decide +kernel
theorem dX3_init_135 : decode cX3_init 135 = .ok (.aload_n 0, 1) := by decide +kernel
theorem dX3_init_136 : decode cX3_init 136 = .ok (.getfield 51, 3) := by decide +kernel
theorem dX3_init_139 : decode cX3_init 139 = .ok (.ldc2_w 60, 3) := by decide +kernel
theorem dX3_init_142 : decode cX3_init 142 = .ok (.invokestatic 62, 3) := by decide +kernel
theorem dX3_init_145 : decode cX3_init 145 = .ok (.return_, 1) := by decide +kernel
theorem dX3_forgetLaw_0 : decode cX3_forgetLaw 0 = .ok (.aload_n 0, 1) := by decide +kernel
theorem dX3_forgetLaw_1 : decode cX3_forgetLaw 1 = .ok (.getfield 40, 3) := by decide +kernel
theorem dX3_forgetLaw_4 : decode cX3_forgetLaw 4 = .ok (.iconst 0, 1) := by decide +kernel
theorem dX3_forgetLaw_5 : decode cX3_forgetLaw 5 = .ok (.invokestatic 68, 3) := by decide +kernel
theorem dX3_forgetLaw_8 : decode cX3_forgetLaw 8 = .ok (.aload_n 0, 1) := by decide +kernel
theorem dX3_forgetLaw_9 : decode cX3_forgetLaw 9 = .ok (.getfield 51, 3) := by decide +kernel
theorem dX3_forgetLaw_12 : decode cX3_forgetLaw 12 = .ok (.ldc2_w 60, 3) := by decide +kernel
theorem dX3_forgetLaw_15 : decode cX3_forgetLaw 15 = .ok (.invokestatic 62, 3) := by decide +kernel
theorem dX3_forgetLaw_18 : decode cX3_forgetLaw 18 = .ok (.aload_n 0, 1) := by decide +kernel
theorem dX3_forgetLaw_19 : decode cX3_forgetLaw 19 = .ok (.iconst (-1), 1) := by decide +kernel
theorem dX3_forgetLaw_20 : decode cX3_forgetLaw 20 = .ok (.putfield 57, 3) := by decide +kernel
theorem dX3_forgetLaw_23 : decode cX3_forgetLaw 23 = .ok (.aload_n 0, 1) := by decide +kernel
theorem dX3_forgetLaw_24 : decode cX3_forgetLaw 24 = .ok (.invokevirtual 71, 3) := by decide +kernel
theorem dX3_forgetLaw_27 : decode cX3_forgetLaw 27 = .ok (.return_, 1) := by decide +kernel
theorem dX3_forgetWorths_0 : decode cX3_forgetWorths 0 = .ok (.aload_n 0, 1) := by decide +kernel
theorem dX3_forgetWorths_1 : decode cX3_forgetWorths 1 = .ok (.iconst 0, 1) := by decide +kernel
theorem dX3_forgetWorths_2 : decode cX3_forgetWorths 2 = .ok (.putfield 44, 3) := by decide +kernel
theorem dX3_forgetWorths_5 : decode cX3_forgetWorths 5 = .ok (.return_, 1) := by decide +kernel
theorem dX3_standAt_0 : decode cX3_standAt 0 = .ok (.iload_n 1, 1) := by decide +kernel
theorem dX3_standAt_1 : decode cX3_standAt 1 = .ok (.aload_n 0, 1) := by decide +kernel
theorem dX3_standAt_2 : decode cX3_standAt 2 = .ok (.getfield 36, 3) := by decide +kernel
theorem dX3_standAt_5 : decode cX3_standAt 5 = .ok (.if_icmp .eq 20, 3) := by decide +kernel
theorem dX3_standAt_8 : decode cX3_standAt 8 = .ok (.aload_n 0, 1) := by decide +kernel
theorem dX3_standAt_9 : decode cX3_standAt 9 = .ok (.iload_n 1, 1) := by decide +kernel
theorem dX3_standAt_10 : decode cX3_standAt 10 = .ok (.putfield 36, 3) := by decide +kernel
theorem dX3_standAt_13 : decode cX3_standAt 13 = .ok (.aload_n 0, 1) := by decide +kernel
theorem dX3_standAt_14 : decode cX3_standAt 14 = .ok (.getfield 40, 3) := by decide +kernel
theorem dX3_standAt_17 : decode cX3_standAt 17 = .ok (.iconst 0, 1) := by decide +kernel
theorem dX3_standAt_18 : decode cX3_standAt 18 = .ok (.invokestatic 68, 3) := by decide +kernel
theorem dX3_standAt_21 : decode cX3_standAt 21 = .ok (.aload_n 0, 1) := by decide +kernel
theorem dX3_standAt_22 : decode cX3_standAt 22 = .ok (.invokevirtual 71, 3) := by decide +kernel
theorem dX3_standAt_25 : decode cX3_standAt 25 = .ok (.return_, 1) := by decide +kernel
theorem dX3_aimBy_0 : decode cX3_aimBy 0 = .ok (.aload_n 0, 1) := by decide +kernel
theorem dX3_aimBy_1 : decode cX3_aimBy 1 = .ok (.iconst 1, 1) := by decide +kernel
theorem dX3_aimBy_2 : decode cX3_aimBy 2 = .ok (.iload_n 1, 1) := by decide +kernel
theorem dX3_aimBy_3 : decode cX3_aimBy 3 = .ok (.iload_n 2, 1) := by decide +kernel
theorem dX3_aimBy_4 : decode cX3_aimBy 4 = .ok (.invokevirtual 74, 3) := by decide +kernel
theorem dX3_aimBy_7 : decode cX3_aimBy 7 = .ok (.return_, 1) := by decide +kernel
theorem dX3_aimAtLeast_0 : decode cX3_aimAtLeast 0 = .ok (.aload_n 0, 1) := by decide +kernel
theorem dX3_aimAtLeast_1 : decode cX3_aimAtLeast 1 = .ok (.iconst 2, 1) := by decide +kernel
theorem dX3_aimAtLeast_2 : decode cX3_aimAtLeast 2 = .ok (.iload_n 1, 1) := by decide +kernel
theorem dX3_aimAtLeast_3 : decode cX3_aimAtLeast 3 = .ok (.iconst 0, 1) := by decide +kernel
theorem dX3_aimAtLeast_4 : decode cX3_aimAtLeast 4 = .ok (.invokevirtual 74, 3) := by decide +kernel
theorem dX3_aimAtLeast_7 : decode cX3_aimAtLeast 7 = .ok (.return_, 1) := by decide +kernel
theorem dX3_takeAim_0 : decode cX3_takeAim 0 = .ok (.aload_n 0, 1) := by decide +kernel
theorem dX3_takeAim_1 : decode cX3_takeAim 1 = .ok (.getfield 44, 3) := by decide +kernel
theorem dX3_takeAim_4 : decode cX3_takeAim 4 = .ok (.iload_n 1, 1) := by decide +kernel
theorem dX3_takeAim_5 : decode cX3_takeAim 5 = .ok (.if_icmp .ne 19, 3) := by decide +kernel
theorem dX3_takeAim_8 : decode cX3_takeAim 8 = .ok (.aload_n 0, 1) := by decide +kernel
theorem dX3_takeAim_9 : decode cX3_takeAim 9 = .ok (.getfield 78, 3) := by decide +kernel
theorem dX3_takeAim_12 : decode cX3_takeAim 12 = .ok (.iload_n 2, 1) := by decide +kernel
theorem dX3_takeAim_13 : decode cX3_takeAim 13 = .ok (.if_icmp .ne 11, 3) := by decide +kernel
theorem dX3_takeAim_16 : decode cX3_takeAim 16 = .ok (.aload_n 0, 1) := by decide +kernel
theorem dX3_takeAim_17 : decode cX3_takeAim 17 = .ok (.getfield 81, 3) := by decide +kernel
theorem dX3_takeAim_20 : decode cX3_takeAim 20 = .ok (.iload_n 3, 1) := by decide +kernel
theorem dX3_takeAim_21 : decode cX3_takeAim 21 = .ok (.if_icmp .eq 28, 3) := by decide +kernel
theorem dX3_takeAim_24 : decode cX3_takeAim 24 = .ok (.aload_n 0, 1) := by decide +kernel
theorem dX3_takeAim_25 : decode cX3_takeAim 25 = .ok (.iload_n 1, 1) := by decide +kernel
theorem dX3_takeAim_26 : decode cX3_takeAim 26 = .ok (.putfield 44, 3) := by decide +kernel
theorem dX3_takeAim_29 : decode cX3_takeAim 29 = .ok (.aload_n 0, 1) := by decide +kernel
theorem dX3_takeAim_30 : decode cX3_takeAim 30 = .ok (.iload_n 2, 1) := by decide +kernel
theorem dX3_takeAim_31 : decode cX3_takeAim 31 = .ok (.putfield 78, 3) := by decide +kernel
theorem dX3_takeAim_34 : decode cX3_takeAim 34 = .ok (.aload_n 0, 1) := by decide +kernel
theorem dX3_takeAim_35 : decode cX3_takeAim 35 = .ok (.iload_n 3, 1) := by decide +kernel
theorem dX3_takeAim_36 : decode cX3_takeAim 36 = .ok (.putfield 81, 3) := by decide +kernel
theorem dX3_takeAim_39 : decode cX3_takeAim 39 = .ok (.aload_n 0, 1) := by decide +kernel
theorem dX3_takeAim_40 : decode cX3_takeAim 40 = .ok (.getfield 47, 3) := by decide +kernel
theorem dX3_takeAim_43 : decode cX3_takeAim 43 = .ok (.ldc2_w 60, 3) := by decide +kernel
theorem dX3_takeAim_46 : decode cX3_takeAim 46 = .ok (.invokestatic 62, 3) := by decide +kernel
theorem dX3_takeAim_49 : decode cX3_takeAim 49 = .ok (.return_, 1) := by decide +kernel
theorem dX3_valueOrThrow_0 : decode cX3_valueOrThrow 0 = .ok (.iload 4, 2) := by decide +kernel
theorem dX3_valueOrThrow_2 : decode cX3_valueOrThrow 2 = .ok (.ifCond .ne 16, 3) := by decide +kernel
theorem dX3_valueOrThrow_5 : decode cX3_valueOrThrow 5 = .ok (.aload_n 0, 1) := by decide +kernel
theorem dX3_valueOrThrow_6 : decode cX3_valueOrThrow 6 = .ok (.iload_n 1, 1) := by decide +kernel
theorem dX3_valueOrThrow_7 : decode cX3_valueOrThrow 7 = .ok (.iload_n 2, 1) := by decide +kernel
theorem dX3_valueOrThrow_8 : decode cX3_valueOrThrow 8 = .ok (.iload_n 3, 1) := by decide +kernel
theorem dX3_valueOrThrow_9 : decode cX3_valueOrThrow 9 = .ok (.iconst 0, 1) := by decide +kernel
theorem dX3_valueOrThrow_10 : decode cX3_valueOrThrow 10 = .ok (.invokevirtual 84, 3) := by decide +kernel
theorem dX3_valueOrThrow_13 : decode cX3_valueOrThrow 13 = .ok (.iconst 1, 1) := by decide +kernel
theorem dX3_valueOrThrow_14 : decode cX3_valueOrThrow 14 = .ok (.lshr, 1) := by decide +kernel
theorem dX3_valueOrThrow_15 : decode cX3_valueOrThrow 15 = .ok (.goto 11, 3) := by decide +kernel
theorem dX3_valueOrThrow_18 : decode cX3_valueOrThrow 18 = .ok (.aload_n 0, 1) := by decide +kernel
theorem dX3_valueOrThrow_19 : decode cX3_valueOrThrow 19 = .ok (.iload_n 1, 1) := by decide +kernel
theorem dX3_valueOrThrow_20 : decode cX3_valueOrThrow 20 = .ok (.iload_n 2, 1) := by decide +kernel
theorem dX3_valueOrThrow_21 : decode cX3_valueOrThrow 21 = .ok (.iload_n 3, 1) := by decide +kernel
theorem dX3_valueOrThrow_22 : decode cX3_valueOrThrow 22 = .ok (.invokevirtual 88, 3) := by decide +kernel
theorem dX3_valueOrThrow_25 : decode cX3_valueOrThrow 25 = .ok (.i2l, 1) := by decide +kernel
theorem dX3_valueOrThrow_26 : decode cX3_valueOrThrow 26 = .ok (.lreturn, 1) := by decide +kernel
theorem dX3_throwAt_0 : decode cX3_throwAt 0 = .ok (.aload_n 0, 1) := by decide +kernel
theorem dX3_throwAt_1 : decode cX3_throwAt 1 = .ok (.getfield 14, 3) := by decide +kernel
theorem dX3_throwAt_4 : decode cX3_throwAt 4 = .ok (.iload_n 1, 1) := by decide +kernel
theorem dX3_throwAt_5 : decode cX3_throwAt 5 = .ok (.iload_n 2, 1) := by decide +kernel
theorem dX3_throwAt_6 : decode cX3_throwAt 6 = .ok (.iload_n 3, 1) := by decide +kernel
theorem dX3_throwAt_7 : decode cX3_throwAt 7 = .ok (.invokevirtual 92, 3) := by decide +kernel
theorem dX3_throwAt_10 : decode cX3_throwAt 10 = .ok (.iconst 2, 1) := by decide +kernel
theorem dX3_throwAt_11 : decode cX3_throwAt 11 = .ok (.if_icmp .ne 5, 3) := by decide +kernel
theorem dX3_throwAt_14 : decode cX3_throwAt 14 = .ok (.iconst (-1), 1) := by decide +kernel
theorem dX3_throwAt_15 : decode cX3_throwAt 15 = .ok (.ireturn, 1) := by decide +kernel
theorem dX3_throwAt_16 : decode cX3_throwAt 16 = .ok (.aload_n 0, 1) := by decide +kernel
theorem dX3_throwAt_17 : decode cX3_throwAt 17 = .ok (.iload_n 1, 1) := by decide +kernel
theorem dX3_throwAt_18 : decode cX3_throwAt 18 = .ok (.iload_n 2, 1) := by decide +kernel
theorem dX3_throwAt_19 : decode cX3_throwAt 19 = .ok (.iload_n 3, 1) := by decide +kernel
theorem dX3_throwAt_20 : decode cX3_throwAt 20 = .ok (.iconst 0, 1) := by decide +kernel
theorem dX3_throwAt_21 : decode cX3_throwAt 21 = .ok (.invokevirtual 84, 3) := by decide +kernel
theorem dX3_throwAt_24 : decode cX3_throwAt 24 = .ok (.lconst 1, 1) := by decide +kernel
theorem dX3_throwAt_25 : decode cX3_throwAt 25 = .ok (.land, 1) := by decide +kernel
theorem dX3_throwAt_26 : decode cX3_throwAt 26 = .ok (.lconst 0, 1) := by decide +kernel
theorem dX3_throwAt_27 : decode cX3_throwAt 27 = .ok (.lcmp, 1) := by decide +kernel
theorem dX3_throwAt_28 : decode cX3_throwAt 28 = .ok (.ifCond .ne 7, 3) := by decide +kernel
theorem dX3_throwAt_31 : decode cX3_throwAt 31 = .ok (.iconst 1, 1) := by decide +kernel
theorem dX3_throwAt_32 : decode cX3_throwAt 32 = .ok (.goto 4, 3) := by decide +kernel
theorem dX3_throwAt_35 : decode cX3_throwAt 35 = .ok (.iconst 2, 1) := by decide +kernel
theorem dX3_throwAt_36 : decode cX3_throwAt 36 = .ok (.ireturn, 1) := by decide +kernel
theorem dX3_chanceOfCount_0 : decode cX3_chanceOfCount 0 = .ok (.aload_n 0, 1) := by decide +kernel
theorem dX3_chanceOfCount_1 : decode cX3_chanceOfCount 1 = .ok (.getfield 14, 3) := by decide +kernel
theorem dX3_chanceOfCount_4 : decode cX3_chanceOfCount 4 = .ok (.iload_n 1, 1) := by decide +kernel
theorem dX3_chanceOfCount_5 : decode cX3_chanceOfCount 5 = .ok (.iload_n 2, 1) := by decide +kernel
theorem dX3_chanceOfCount_6 : decode cX3_chanceOfCount 6 = .ok (.iload_n 3, 1) := by decide +kernel
theorem dX3_chanceOfCount_7 : decode cX3_chanceOfCount 7 = .ok (.invokevirtual 92, 3) := by decide +kernel
theorem dX3_chanceOfCount_10 : decode cX3_chanceOfCount 10 = .ok (.iconst 2, 1) := by decide +kernel
theorem dX3_chanceOfCount_11 : decode cX3_chanceOfCount 11 = .ok (.if_icmp .eq 31, 3) := by decide +kernel
theorem dX3_chanceOfCount_14 : decode cX3_chanceOfCount 14 = .ok (.aload_n 0, 1) := by decide +kernel
theorem dX3_chanceOfCount_15 : decode cX3_chanceOfCount 15 = .ok (.iload_n 1, 1) := by decide +kernel
theorem dX3_chanceOfCount_16 : decode cX3_chanceOfCount 16 = .ok (.iload_n 2, 1) := by decide +kernel
theorem dX3_chanceOfCount_17 : decode cX3_chanceOfCount 17 = .ok (.iload_n 3, 1) := by decide +kernel
theorem dX3_chanceOfCount_18 : decode cX3_chanceOfCount 18 = .ok (.invokestatic 95, 3) := by decide +kernel
theorem dX3_chanceOfCount_21 : decode cX3_chanceOfCount 21 = .ok (.invokevirtual 98, 3) := by decide +kernel
theorem dX3_chanceOfCount_24 : decode cX3_chanceOfCount 24 = .ok (.ifCond .ne 18, 3) := by decide +kernel
theorem dX3_chanceOfCount_27 : decode cX3_chanceOfCount 27 = .ok (.aload_n 0, 1) := by decide +kernel
theorem dX3_chanceOfCount_28 : decode cX3_chanceOfCount 28 = .ok (.iconst (-1), 1) := by decide +kernel
theorem dX3_chanceOfCount_29 : decode cX3_chanceOfCount 29 = .ok (.iconst (-1), 1) := by decide +kernel
theorem dX3_chanceOfCount_30 : decode cX3_chanceOfCount 30 = .ok (.invokevirtual 102, 3) := by decide +kernel
theorem dX3_chanceOfCount_33 : decode cX3_chanceOfCount 33 = .ok (.aload_n 0, 1) := by decide +kernel
theorem dX3_chanceOfCount_34 : decode cX3_chanceOfCount 34 = .ok (.iload_n 1, 1) := by decide +kernel
theorem dX3_chanceOfCount_35 : decode cX3_chanceOfCount 35 = .ok (.iload_n 2, 1) := by decide +kernel
theorem dX3_chanceOfCount_36 : decode cX3_chanceOfCount 36 = .ok (.iload_n 3, 1) := by decide +kernel
theorem dX3_chanceOfCount_37 : decode cX3_chanceOfCount 37 = .ok (.iconst 0, 1) := by decide +kernel
theorem dX3_chanceOfCount_38 : decode cX3_chanceOfCount 38 = .ok (.invokevirtual 84, 3) := by decide +kernel
theorem dX3_chanceOfCount_41 : decode cX3_chanceOfCount 41 = .ok (.pop2, 1) := by decide +kernel
theorem dX3_chanceOfCount_42 : decode cX3_chanceOfCount 42 = .ok (.aload_n 0, 1) := by decide +kernel
theorem dX3_chanceOfCount_43 : decode cX3_chanceOfCount 43 = .ok (.iconst 3, 1) := by decide +kernel
theorem dX3_chanceOfCount_44 : decode cX3_chanceOfCount 44 = .ok (.iload 4, 2) := by decide +kernel
theorem dX3_chanceOfCount_46 : decode cX3_chanceOfCount 46 = .ok (.iconst 0, 1) := by decide +kernel
theorem dX3_chanceOfCount_47 : decode cX3_chanceOfCount 47 = .ok (.invokevirtual 74, 3) := by decide +kernel
theorem dX3_chanceOfCount_50 : decode cX3_chanceOfCount 50 = .ok (.aload_n 0, 1) := by decide +kernel
theorem dX3_chanceOfCount_51 : decode cX3_chanceOfCount 51 = .ok (.iload_n 1, 1) := by decide +kernel
theorem dX3_chanceOfCount_52 : decode cX3_chanceOfCount 52 = .ok (.iload_n 2, 1) := by decide +kernel
theorem dX3_chanceOfCount_53 : decode cX3_chanceOfCount 53 = .ok (.iload_n 3, 1) := by decide +kernel
theorem dX3_chanceOfCount_54 : decode cX3_chanceOfCount 54 = .ok (.iconst 0, 1) := by decide +kernel
theorem dX3_chanceOfCount_55 : decode cX3_chanceOfCount 55 = .ok (.invokevirtual 84, 3) := by decide +kernel
theorem dX3_chanceOfCount_58 : decode cX3_chanceOfCount 58 = .ok (.iconst 1, 1) := by decide +kernel
theorem dX3_chanceOfCount_59 : decode cX3_chanceOfCount 59 = .ok (.lshr, 1) := by decide +kernel
theorem dX3_chanceOfCount_60 : decode cX3_chanceOfCount 60 = .ok (.lreturn, 1) := by decide +kernel
theorem dX3_beginValue_0 : decode cX3_beginValue 0 = .ok (.iconst 2, 1) := by decide +kernel
theorem dX3_beginValue_1 : decode cX3_beginValue 1 = .ok (.iload_n 1, 1) := by decide +kernel
theorem dX3_beginValue_2 : decode cX3_beginValue 2 = .ok (.bipush 6, 2) := by decide +kernel
