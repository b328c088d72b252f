theorem dX3_beginValue_4 : decode cX3_beginValue 4 = .ok (.isub, 1) := by decide +kernel
theorem dX3_beginValue_5 : decode cX3_beginValue 5 = .ok (.imul, 1) := by decide +kernel
theorem dX3_beginValue_6 : decode cX3_beginValue 6 = .ok (.iload_n 2, 1) := by decide +kernel
theorem dX3_beginValue_7 : decode cX3_beginValue 7 = .ok (.iadd, 1) := by decide +kernel
theorem dX3_beginValue_8 : decode cX3_beginValue 8 = .ok (.istore_n 3, 1) := by decide +kernel
theorem dX3_beginValue_9 : decode cX3_beginValue 9 = .ok (.iload_n 3, 1) := by decide +kernel
theorem dX3_beginValue_10 : decode cX3_beginValue 10 = .ok (.ifCond .lt 12, 3) := by decide +kernel
theorem dX3_beginValue_13 : decode cX3_beginValue 13 = .ok (.iload_n 3, 1) := by decide +kernel
theorem dX3_beginValue_14 : decode cX3_beginValue 14 = .ok (.aload_n 0, 1) := by decide +kernel
theorem dX3_beginValue_15 : decode cX3_beginValue 15 = .ok (.getfield 51, 3) := by decide +kernel
theorem dX3_beginValue_18 : decode cX3_beginValue 18 = .ok (.arraylength, 1) := by decide +kernel
theorem dX3_beginValue_19 : decode cX3_beginValue 19 = .ok (.if_icmp .lt 5, 3) := by decide +kernel
theorem dX3_beginValue_22 : decode cX3_beginValue 22 = .ok (.lconst 0, 1) := by decide +kernel
theorem dX3_beginValue_23 : decode cX3_beginValue 23 = .ok (.lreturn, 1) := by decide +kernel
theorem dX3_beginValue_24 : decode cX3_beginValue 24 = .ok (.aload_n 0, 1) := by decide +kernel
theorem dX3_beginValue_25 : decode cX3_beginValue 25 = .ok (.getfield 51, 3) := by decide +kernel
theorem dX3_beginValue_28 : decode cX3_beginValue 28 = .ok (.iload_n 3, 1) := by decide +kernel
theorem dX3_beginValue_29 : decode cX3_beginValue 29 = .ok (.laload, 1) := by decide +kernel
theorem dX3_beginValue_30 : decode cX3_beginValue 30 = .ok (.ldc2_w 60, 3) := by decide +kernel
theorem dX3_beginValue_33 : decode cX3_beginValue 33 = .ok (.lcmp, 1) := by decide +kernel
theorem dX3_beginValue_34 : decode cX3_beginValue 34 = .ok (.ifCond .ne 34, 3) := by decide +kernel
theorem dX3_beginValue_37 : decode cX3_beginValue 37 = .ok (.aload_n 0, 1) := by decide +kernel
theorem dX3_beginValue_38 : decode cX3_beginValue 38 = .ok (.iload_n 1, 1) := by decide +kernel
theorem dX3_beginValue_39 : decode cX3_beginValue 39 = .ok (.invokevirtual 106, 3) := by decide +kernel
theorem dX3_beginValue_42 : decode cX3_beginValue 42 = .ok (.aload_n 0, 1) := by decide +kernel
theorem dX3_beginValue_43 : decode cX3_beginValue 43 = .ok (.iconst (-1), 1) := by decide +kernel
theorem dX3_beginValue_44 : decode cX3_beginValue 44 = .ok (.iconst (-1), 1) := by decide +kernel
theorem dX3_beginValue_45 : decode cX3_beginValue 45 = .ok (.invokevirtual 102, 3) := by decide +kernel
theorem dX3_beginValue_48 : decode cX3_beginValue 48 = .ok (.aload_n 0, 1) := by decide +kernel
theorem dX3_beginValue_49 : decode cX3_beginValue 49 = .ok (.getfield 51, 3) := by decide +kernel
theorem dX3_beginValue_52 : decode cX3_beginValue 52 = .ok (.iload_n 3, 1) := by decide +kernel
theorem dX3_beginValue_53 : decode cX3_beginValue 53 = .ok (.aload_n 0, 1) := by decide +kernel
theorem dX3_beginValue_54 : decode cX3_beginValue 54 = .ok (.bipush 55, 2) := by decide +kernel
theorem dX3_beginValue_56 : decode cX3_beginValue 56 = .ok (.bipush 55, 2) := by decide +kernel
theorem dX3_beginValue_58 : decode cX3_beginValue 58 = .ok (.iconst 1, 1) := by decide +kernel
theorem dX3_beginValue_59 : decode cX3_beginValue 59 = .ok (.iload_n 2, 1) := by decide +kernel
theorem dX3_beginValue_60 : decode cX3_beginValue 60 = .ok (.isub, 1) := by decide +kernel
theorem dX3_beginValue_61 : decode cX3_beginValue 61 = .ok (.iconst 0, 1) := by decide +kernel
theorem dX3_beginValue_62 : decode cX3_beginValue 62 = .ok (.invokevirtual 84, 3) := by decide +kernel
theorem dX3_beginValue_65 : decode cX3_beginValue 65 = .ok (.iconst 1, 1) := by decide +kernel
theorem dX3_beginValue_66 : decode cX3_beginValue 66 = .ok (.lshr, 1) := by decide +kernel
theorem dX3_beginValue_67 : decode cX3_beginValue 67 = .ok (.lastore, 1) := by decide +kernel
theorem dX3_beginValue_68 : decode cX3_beginValue 68 = .ok (.aload_n 0, 1) := by decide +kernel
theorem dX3_beginValue_69 : decode cX3_beginValue 69 = .ok (.getfield 51, 3) := by decide +kernel
theorem dX3_beginValue_72 : decode cX3_beginValue 72 = .ok (.iload_n 3, 1) := by decide +kernel
theorem dX3_beginValue_73 : decode cX3_beginValue 73 = .ok (.laload, 1) := by decide +kernel
theorem dX3_beginValue_74 : decode cX3_beginValue 74 = .ok (.lreturn, 1) := by decide +kernel
theorem dX3_valueOfGame_0 : decode cX3_valueOfGame 0 = .ok (.aload_n 0, 1) := by decide +kernel
theorem dX3_valueOfGame_1 : decode cX3_valueOfGame 1 = .ok (.iload_n 1, 1) := by decide +kernel
theorem dX3_valueOfGame_2 : decode cX3_valueOfGame 2 = .ok (.invokevirtual 106, 3) := by decide +kernel
theorem dX3_valueOfGame_5 : decode cX3_valueOfGame 5 = .ok (.aload_n 0, 1) := by decide +kernel
theorem dX3_valueOfGame_6 : decode cX3_valueOfGame 6 = .ok (.iload_n 2, 1) := by decide +kernel
theorem dX3_valueOfGame_7 : decode cX3_valueOfGame 7 = .ok (.iload_n 3, 1) := by decide +kernel
theorem dX3_valueOfGame_8 : decode cX3_valueOfGame 8 = .ok (.invokevirtual 102, 3) := by decide +kernel
theorem dX3_valueOfGame_11 : decode cX3_valueOfGame 11 = .ok (.aload_n 0, 1) := by decide +kernel
theorem dX3_valueOfGame_12 : decode cX3_valueOfGame 12 = .ok (.bipush 55, 2) := by decide +kernel
theorem dX3_valueOfGame_14 : decode cX3_valueOfGame 14 = .ok (.bipush 55, 2) := by decide +kernel
theorem dX3_valueOfGame_16 : decode cX3_valueOfGame 16 = .ok (.iconst 1, 1) := by decide +kernel
theorem dX3_valueOfGame_17 : decode cX3_valueOfGame 17 = .ok (.iconst 0, 1) := by decide +kernel
theorem dX3_valueOfGame_18 : decode cX3_valueOfGame 18 = .ok (.invokevirtual 84, 3) := by decide +kernel
theorem dX3_valueOfGame_21 : decode cX3_valueOfGame 21 = .ok (.iconst 1, 1) := by decide +kernel
theorem dX3_valueOfGame_22 : decode cX3_valueOfGame 22 = .ok (.lshr, 1) := by decide +kernel
theorem dX3_valueOfGame_23 : decode cX3_valueOfGame 23 = .ok (.lreturn, 1) := by decide +kernel
theorem dX3_beginCounts_0 : decode cX3_beginCounts 0 = .ok (.aload_n 0, 1) := by decide +kernel
theorem dX3_beginCounts_1 : decode cX3_beginCounts 1 = .ok (.getfield 57, 3) := by decide +kernel
theorem dX3_beginCounts_4 : decode cX3_beginCounts 4 = .ok (.iload_n 1, 1) := by decide +kernel
theorem dX3_beginCounts_5 : decode cX3_beginCounts 5 = .ok (.if_icmp .eq 66, 3) := by decide +kernel
theorem dX3_beginCounts_8 : decode cX3_beginCounts 8 = .ok (.aload_n 0, 1) := by decide +kernel
theorem dX3_beginCounts_9 : decode cX3_beginCounts 9 = .ok (.iload_n 1, 1) := by decide +kernel
theorem dX3_beginCounts_10 : decode cX3_beginCounts 10 = .ok (.invokevirtual 106, 3) := by decide +kernel
theorem dX3_beginCounts_13 : decode cX3_beginCounts 13 = .ok (.iconst 0, 1) := by decide +kernel
theorem dX3_beginCounts_14 : decode cX3_beginCounts 14 = .ok (.istore_n 2, 1) := by decide +kernel
theorem dX3_beginCounts_15 : decode cX3_beginCounts 15 = .ok (.iload_n 2, 1) := by decide +kernel
theorem dX3_beginCounts_16 : decode cX3_beginCounts 16 = .ok (.bipush 7, 2) := by decide +kernel
theorem dX3_beginCounts_18 : decode cX3_beginCounts 18 = .ok (.if_icmp .ge 48, 3) := by decide +kernel
theorem dX3_beginCounts_21 : decode cX3_beginCounts 21 = .ok (.aload_n 0, 1) := by decide +kernel
theorem dX3_beginCounts_22 : decode cX3_beginCounts 22 = .ok (.getfield 54, 3) := by decide +kernel
theorem dX3_beginCounts_25 : decode cX3_beginCounts 25 = .ok (.iload_n 2, 1) := by decide +kernel
theorem dX3_beginCounts_26 : decode cX3_beginCounts 26 = .ok (.aload_n 0, 1) := by decide +kernel
theorem dX3_beginCounts_27 : decode cX3_beginCounts 27 = .ok (.bipush 55, 2) := by decide +kernel
theorem dX3_beginCounts_29 : decode cX3_beginCounts 29 = .ok (.bipush 55, 2) := by decide +kernel
theorem dX3_beginCounts_31 : decode cX3_beginCounts 31 = .ok (.iconst 1, 1) := by decide +kernel
theorem dX3_beginCounts_32 : decode cX3_beginCounts 32 = .ok (.iload_n 2, 1) := by decide +kernel
theorem dX3_beginCounts_33 : decode cX3_beginCounts 33 = .ok (.iconst 3, 1) := by decide +kernel
theorem dX3_beginCounts_34 : decode cX3_beginCounts 34 = .ok (.isub, 1) := by decide +kernel
theorem dX3_beginCounts_35 : decode cX3_beginCounts 35 = .ok (.invokevirtual 110, 3) := by decide +kernel
theorem dX3_beginCounts_38 : decode cX3_beginCounts 38 = .ok (.lastore, 1) := by decide +kernel
theorem dX3_beginCounts_39 : decode cX3_beginCounts 39 = .ok (.aload_n 0, 1) := by decide +kernel
theorem dX3_beginCounts_40 : decode cX3_beginCounts 40 = .ok (.getfield 54, 3) := by decide +kernel
theorem dX3_beginCounts_43 : decode cX3_beginCounts 43 = .ok (.bipush 7, 2) := by decide +kernel
theorem dX3_beginCounts_45 : decode cX3_beginCounts 45 = .ok (.iload_n 2, 1) := by decide +kernel
theorem dX3_beginCounts_46 : decode cX3_beginCounts 46 = .ok (.iadd, 1) := by decide +kernel
theorem dX3_beginCounts_47 : decode cX3_beginCounts 47 = .ok (.aload_n 0, 1) := by decide +kernel
theorem dX3_beginCounts_48 : decode cX3_beginCounts 48 = .ok (.bipush 55, 2) := by decide +kernel
theorem dX3_beginCounts_50 : decode cX3_beginCounts 50 = .ok (.bipush 55, 2) := by decide +kernel
theorem dX3_beginCounts_52 : decode cX3_beginCounts 52 = .ok (.iconst 0, 1) := by decide +kernel
theorem dX3_beginCounts_53 : decode cX3_beginCounts 53 = .ok (.iload_n 2, 1) := by decide +kernel
theorem dX3_beginCounts_54 : decode cX3_beginCounts 54 = .ok (.iconst 3, 1) := by decide +kernel
theorem dX3_beginCounts_55 : decode cX3_beginCounts 55 = .ok (.isub, 1) := by decide +kernel
theorem dX3_beginCounts_56 : decode cX3_beginCounts 56 = .ok (.invokevirtual 110, 3) := by decide +kernel
theorem dX3_beginCounts_59 : decode cX3_beginCounts 59 = .ok (.lastore, 1) := by decide +kernel
theorem dX3_beginCounts_60 : decode cX3_beginCounts 60 = .ok (.iinc 2 1, 3) := by decide +kernel
theorem dX3_beginCounts_63 : decode cX3_beginCounts 63 = .ok (.goto (-48), 3) := by decide +kernel
theorem dX3_beginCounts_66 : decode cX3_beginCounts 66 = .ok (.aload_n 0, 1) := by decide +kernel
theorem dX3_beginCounts_67 : decode cX3_beginCounts 67 = .ok (.iload_n 1, 1) := by decide +kernel
theorem dX3_beginCounts_68 : decode cX3_beginCounts 68 = .ok (.putfield 57, 3) := by decide +kernel
theorem dX3_beginCounts_71 : decode cX3_beginCounts 71 = .ok (.aload_n 0, 1) := by decide +kernel
theorem dX3_beginCounts_72 : decode cX3_beginCounts 72 = .ok (.getfield 54, 3) := by decide +kernel
theorem dX3_beginCounts_75 : decode cX3_beginCounts 75 = .ok (.areturn, 1) := by decide +kernel
theorem dX3_lossBy_0 : decode cX3_lossBy 0 = .ok (.aload_n 0, 1) := by decide +kernel
theorem dX3_lossBy_1 : decode cX3_lossBy 1 = .ok (.getfield 14, 3) := by decide +kernel
theorem dX3_lossBy_4 : decode cX3_lossBy 4 = .ok (.iload_n 1, 1) := by decide +kernel
theorem dX3_lossBy_5 : decode cX3_lossBy 5 = .ok (.iload_n 2, 1) := by decide +kernel
theorem dX3_lossBy_6 : decode cX3_lossBy 6 = .ok (.iload_n 3, 1) := by decide +kernel
theorem dX3_lossBy_7 : decode cX3_lossBy 7 = .ok (.invokevirtual 92, 3) := by decide +kernel
theorem dX3_lossBy_10 : decode cX3_lossBy 10 = .ok (.istore 5, 2) := by decide +kernel
theorem dX3_lossBy_12 : decode cX3_lossBy 12 = .ok (.iload 5, 2) := by decide +kernel
theorem dX3_lossBy_14 : decode cX3_lossBy 14 = .ok (.iconst 2, 1) := by decide +kernel
theorem dX3_lossBy_15 : decode cX3_lossBy 15 = .ok (.if_icmp .ne 5, 3) := by decide +kernel
theorem dX3_lossBy_18 : decode cX3_lossBy 18 = .ok (.lconst 0, 1) := by decide +kernel
theorem dX3_lossBy_19 : decode cX3_lossBy 19 = .ok (.lreturn, 1) := by decide +kernel
theorem dX3_lossBy_20 : decode cX3_lossBy 20 = .ok (.aload_n 0, 1) := by decide +kernel
theorem dX3_lossBy_21 : decode cX3_lossBy 21 = .ok (.iload_n 1, 1) := by decide +kernel
theorem dX3_lossBy_22 : decode cX3_lossBy 22 = .ok (.iload_n 2, 1) := by decide +kernel
theorem dX3_lossBy_23 : decode cX3_lossBy 23 = .ok (.iload_n 3, 1) := by decide +kernel
theorem dX3_lossBy_24 : decode cX3_lossBy 24 = .ok (.iconst 0, 1) := by decide +kernel
theorem dX3_lossBy_25 : decode cX3_lossBy 25 = .ok (.invokevirtual 84, 3) := by decide +kernel
theorem dX3_lossBy_28 : decode cX3_lossBy 28 = .ok (.iconst 1, 1) := by decide +kernel
theorem dX3_lossBy_29 : decode cX3_lossBy 29 = .ok (.lshr, 1) := by decide +kernel
theorem dX3_lossBy_30 : decode cX3_lossBy 30 = .ok (.aload_n 0, 1) := by decide +kernel
theorem dX3_lossBy_31 : decode cX3_lossBy 31 = .ok (.iload 4, 2) := by decide +kernel
theorem dX3_lossBy_33 : decode cX3_lossBy 33 = .ok (.iload_n 1, 1) := by decide +kernel
theorem dX3_lossBy_34 : decode cX3_lossBy 34 = .ok (.iload_n 2, 1) := by decide +kernel
theorem dX3_lossBy_35 : decode cX3_lossBy 35 = .ok (.iload_n 3, 1) := by decide +kernel
theorem dX3_lossBy_36 : decode cX3_lossBy 36 = .ok (.iconst 0, 1) := by decide +kernel
theorem dX3_lossBy_37 : decode cX3_lossBy 37 = .ok (.invokevirtual 113, 3) := by decide +kernel
theorem dX3_lossBy_40 : decode cX3_lossBy 40 = .ok (.lsub, 1) := by decide +kernel
theorem dX3_lossBy_41 : decode cX3_lossBy 41 = .ok (.lstore 6, 2) := by decide +kernel
theorem dX3_lossBy_43 : decode cX3_lossBy 43 = .ok (.lconst 0, 1) := by decide +kernel
theorem dX3_lossBy_44 : decode cX3_lossBy 44 = .ok (.iload 5, 2) := by decide +kernel
theorem dX3_lossBy_46 : decode cX3_lossBy 46 = .ok (.ifCond .ne 8, 3) := by decide +kernel
theorem dX3_lossBy_49 : decode cX3_lossBy 49 = .ok (.lload 6, 2) := by decide +kernel
theorem dX3_lossBy_51 : decode cX3_lossBy 51 = .ok (.goto 6, 3) := by decide +kernel
theorem dX3_lossBy_54 : decode cX3_lossBy 54 = .ok (.lload 6, 2) := by decide +kernel
theorem dX3_lossBy_56 : decode cX3_lossBy 56 = .ok (.lneg, 1) := by decide +kernel
theorem dX3_lossBy_57 : decode cX3_lossBy 57 = .ok (.invokestatic 117, 3) := by decide +kernel
theorem dX3_lossBy_60 : decode cX3_lossBy 60 = .ok (.lreturn, 1) := by decide +kernel
theorem dX3_hundredths_0 : decode cX3_hundredths 0 = .ok (.aload_n 0, 1) := by decide +kernel
theorem dX3_hundredths_1 : decode cX3_hundredths 1 = .ok (.iload_n 1, 1) := by decide +kernel
theorem dX3_hundredths_2 : decode cX3_hundredths 2 = .ok (.iload_n 2, 1) := by decide +kernel
theorem dX3_hundredths_3 : decode cX3_hundredths 3 = .ok (.iload_n 3, 1) := by decide +kernel
theorem dX3_hundredths_4 : decode cX3_hundredths 4 = .ok (.invokevirtual 123, 3) := by decide +kernel
theorem dX3_hundredths_7 : decode cX3_hundredths 7 = .ok (.iload 4, 2) := by decide +kernel
theorem dX3_hundredths_9 : decode cX3_hundredths 9 = .ok (.invokestatic 126, 3) := by decide +kernel
theorem dX3_hundredths_12 : decode cX3_hundredths 12 = .ok (.ireturn, 1) := by decide +kernel
theorem dX3_partOf_0 : decode cX3_partOf 0 = .ok (.iload 4, 2) := by decide +kernel
theorem dX3_partOf_2 : decode cX3_partOf 2 = .ok (.iconst 1, 1) := by decide +kernel
theorem dX3_partOf_3 : decode cX3_partOf 3 = .ok (.if_icmp .ne 7, 3) := by decide +kernel
theorem dX3_partOf_6 : decode cX3_partOf 6 = .ok (.iconst 0, 1) := by decide +kernel
theorem dX3_partOf_7 : decode cX3_partOf 7 = .ok (.goto 4, 3) := by decide +kernel
theorem dX3_partOf_10 : decode cX3_partOf 10 = .ok (.iconst 4, 1) := by decide +kernel
theorem dX3_partOf_11 : decode cX3_partOf 11 = .ok (.istore 6, 2) := by decide +kernel
theorem dX3_partOf_13 : decode cX3_partOf 13 = .ok (.iload 4, 2) := by decide +kernel
theorem dX3_partOf_15 : decode cX3_partOf 15 = .ok (.iconst 1, 1) := by decide +kernel
theorem dX3_partOf_16 : decode cX3_partOf 16 = .ok (.if_icmp .ne 7, 3) := by decide +kernel
theorem dX3_partOf_19 : decode cX3_partOf 19 = .ok (.iconst 3, 1) := by decide +kernel
theorem dX3_partOf_20 : decode cX3_partOf 20 = .ok (.goto 5, 3) := by decide +kernel
theorem dX3_partOf_23 : decode cX3_partOf 23 = .ok (.bipush 6, 2) := by decide +kernel
theorem dX3_partOf_25 : decode cX3_partOf 25 = .ok (.istore 7, 2) := by decide +kernel
theorem dX3_partOf_27 : decode cX3_partOf 27 = .ok (.aload_n 0, 1) := by decide +kernel
theorem dX3_partOf_28 : decode cX3_partOf 28 = .ok (.iload_n 1, 1) := by decide +kernel
theorem dX3_partOf_29 : decode cX3_partOf 29 = .ok (.iload_n 2, 1) := by decide +kernel
theorem dX3_partOf_30 : decode cX3_partOf 30 = .ok (.iload_n 3, 1) := by decide +kernel
theorem dX3_partOf_31 : decode cX3_partOf 31 = .ok (.iload 6, 2) := by decide +kernel
theorem dX3_partOf_33 : decode cX3_partOf 33 = .ok (.invokevirtual 130, 3) := by decide +kernel
theorem dX3_partOf_36 : decode cX3_partOf 36 = .ok (.istore 8, 2) := by decide +kernel
theorem dX3_partOf_38 : decode cX3_partOf 38 = .ok (.iconst 0, 1) := by decide +kernel
theorem dX3_partOf_39 : decode cX3_partOf 39 = .ok (.istore 9, 2) := by decide +kernel
theorem dX3_partOf_41 : decode cX3_partOf 41 = .ok (.iload 9, 2) := by decide +kernel
theorem dX3_partOf_43 : decode cX3_partOf 43 = .ok (.iconst 3, 1) := by decide +kernel
theorem dX3_partOf_44 : decode cX3_partOf 44 = .ok (.if_icmp .ge 40, 3) := by decide +kernel
theorem dX3_partOf_47 : decode cX3_partOf 47 = .ok (.iload 6, 2) := by decide +kernel
theorem dX3_partOf_49 : decode cX3_partOf 49 = .ok (.iload 7, 2) := by decide +kernel
theorem dX3_partOf_51 : decode cX3_partOf 51 = .ok (.if_icmp .ge 33, 3) := by decide +kernel
theorem dX3_partOf_54 : decode cX3_partOf 54 = .ok (.iload 5, 2) := by decide +kernel
theorem dX3_partOf_56 : decode cX3_partOf 56 = .ok (.iload 8, 2) := by decide +kernel
theorem dX3_partOf_58 : decode cX3_partOf 58 = .ok (.if_icmp .lt 26, 3) := by decide +kernel
theorem dX3_partOf_61 : decode cX3_partOf 61 = .ok (.iinc 6 1, 3) := by decide +kernel
theorem dX3_partOf_64 : decode cX3_partOf 64 = .ok (.iload 8, 2) := by decide +kernel
theorem dX3_partOf_66 : decode cX3_partOf 66 = .ok (.aload_n 0, 1) := by decide +kernel
theorem dX3_partOf_67 : decode cX3_partOf 67 = .ok (.iload_n 1, 1) := by decide +kernel
theorem dX3_partOf_68 : decode cX3_partOf 68 = .ok (.iload_n 2, 1) := by decide +kernel
theorem dX3_partOf_69 : decode cX3_partOf 69 = .ok (.iload_n 3, 1) := by decide +kernel
theorem dX3_partOf_70 : decode cX3_partOf 70 = .ok (.iload 6, 2) := by decide +kernel
theorem dX3_partOf_72 : decode cX3_partOf 72 = .ok (.invokevirtual 130, 3) := by decide +kernel
theorem dX3_partOf_75 : decode cX3_partOf 75 = .ok (.iadd, 1) := by decide +kernel
theorem dX3_partOf_76 : decode cX3_partOf 76 = .ok (.istore 8, 2) := by decide +kernel
theorem dX3_partOf_78 : decode cX3_partOf 78 = .ok (.iinc 9 1, 3) := by decide +kernel
theorem dX3_partOf_81 : decode cX3_partOf 81 = .ok (.goto (-40), 3) := by decide +kernel
theorem dX3_partOf_84 : decode cX3_partOf 84 = .ok (.iload 6, 2) := by decide +kernel
theorem dX3_partOf_86 : decode cX3_partOf 86 = .ok (.ireturn, 1) := by decide +kernel
theorem dX3_spotOf_0 : decode cX3_spotOf 0 = .ok (.bipush 21, 2) := by decide +kernel
theorem dX3_spotOf_2 : decode cX3_spotOf 2 = .ok (.istore_n 3, 1) := by decide +kernel
theorem dX3_spotOf_3 : decode cX3_spotOf 3 = .ok (.iload_n 0, 1) := by decide +kernel
theorem dX3_spotOf_4 : decode cX3_spotOf 4 = .ok (.bipush 35, 2) := by decide +kernel
theorem dX3_spotOf_6 : decode cX3_spotOf 6 = .ok (.if_icmp .lt 15, 3) := by decide +kernel
theorem dX3_spotOf_9 : decode cX3_spotOf 9 = .ok (.iload_n 0, 1) := by decide +kernel
theorem dX3_spotOf_10 : decode cX3_spotOf 10 = .ok (.bipush 35, 2) := by decide +kernel
theorem dX3_spotOf_12 : decode cX3_spotOf 12 = .ok (.isub, 1) := by decide +kernel
theorem dX3_spotOf_13 : decode cX3_spotOf 13 = .ok (.bipush 56, 2) := by decide +kernel
theorem dX3_spotOf_15 : decode cX3_spotOf 15 = .ok (.imul, 1) := by decide +kernel
theorem dX3_spotOf_16 : decode cX3_spotOf 16 = .ok (.iload_n 1, 1) := by decide +kernel
theorem dX3_spotOf_17 : decode cX3_spotOf 17 = .ok (.iadd, 1) := by decide +kernel
theorem dX3_spotOf_18 : decode cX3_spotOf 18 = .ok (.goto 15, 3) := by decide +kernel
theorem dX3_spotOf_21 : decode cX3_spotOf 21 = .ok (.sipush 1176, 3) := by decide +kernel
theorem dX3_spotOf_24 : decode cX3_spotOf 24 = .ok (.iload_n 0, 1) := by decide +kernel
theorem dX3_spotOf_25 : decode cX3_spotOf 25 = .ok (.iload_n 3, 1) := by decide +kernel
theorem dX3_spotOf_26 : decode cX3_spotOf 26 = .ok (.imul, 1) := by decide +kernel
theorem dX3_spotOf_27 : decode cX3_spotOf 27 = .ok (.iadd, 1) := by decide +kernel
theorem dX3_spotOf_28 : decode cX3_spotOf 28 = .ok (.iload_n 1, 1) := by decide +kernel
theorem dX3_spotOf_29 : decode cX3_spotOf 29 = .ok (.iadd, 1) := by decide +kernel
theorem dX3_spotOf_30 : decode cX3_spotOf 30 = .ok (.bipush 35, 2) := by decide +kernel
theorem dX3_spotOf_32 : decode cX3_spotOf 32 = .ok (.isub, 1) := by decide +kernel
theorem dX3_spotOf_33 : decode cX3_spotOf 33 = .ok (.istore 4, 2) := by decide +kernel
theorem dX3_spotOf_35 : decode cX3_spotOf 35 = .ok (.iconst 2, 1) := by decide +kernel
theorem dX3_spotOf_36 : decode cX3_spotOf 36 = .ok (.iload 4, 2) := by decide +kernel
theorem dX3_spotOf_38 : decode cX3_spotOf 38 = .ok (.imul, 1) := by decide +kernel
theorem dX3_spotOf_39 : decode cX3_spotOf 39 = .ok (.iload_n 2, 1) := by decide +kernel
theorem dX3_spotOf_40 : decode cX3_spotOf 40 = .ok (.iadd, 1) := by decide +kernel
theorem dX3_spotOf_41 : decode cX3_spotOf 41 = .ok (.ireturn, 1) := by decide +kernel
theorem dX3_bestThrowAt_0 : decode cX3_bestThrowAt 0 = .ok (.aload_n 0, 1) := by decide +kernel
theorem dX3_bestThrowAt_1 : decode cX3_bestThrowAt 1 = .ok (.getfield 40, 3) := by decide +kernel
theorem dX3_bestThrowAt_4 : decode cX3_bestThrowAt 4 = .ok (.iload_n 1, 1) := by decide +kernel
theorem dX3_bestThrowAt_5 : decode cX3_bestThrowAt 5 = .ok (.invokestatic 134, 3) := by decide +kernel
theorem dX3_bestThrowAt_8 : decode cX3_bestThrowAt 8 = .ok (.bipush 21, 2) := by decide +kernel
theorem dX3_bestThrowAt_10 : decode cX3_bestThrowAt 10 = .ok (.ishr, 1) := by decide +kernel
theorem dX3_bestThrowAt_11 : decode cX3_bestThrowAt 11 = .ok (.ireturn, 1) := by decide +kernel
theorem dX3_worthOfCount_0 : decode cX3_worthOfCount 0 = .ok (.aload_n 0, 1) := by decide +kernel
theorem dX3_worthOfCount_1 : decode cX3_worthOfCount 1 = .ok (.getfield 44, 3) := by decide +kernel
theorem dX3_worthOfCount_4 : decode cX3_worthOfCount 4 = .ok (.iconst 1, 1) := by decide +kernel
theorem dX3_worthOfCount_5 : decode cX3_worthOfCount 5 = .ok (.if_icmp .ne 6, 3) := by decide +kernel
theorem dX3_worthOfCount_8 : decode cX3_worthOfCount 8 = .ok (.iload_n 1, 1) := by decide +kernel
theorem dX3_worthOfCount_9 : decode cX3_worthOfCount 9 = .ok (.i2l, 1) := by decide +kernel
theorem dX3_worthOfCount_10 : decode cX3_worthOfCount 10 = .ok (.lreturn, 1) := by decide +kernel
theorem dX3_worthOfCount_11 : decode cX3_worthOfCount 11 = .ok (.aload_n 0, 1) := by decide +kernel
theorem dX3_worthOfCount_12 : decode cX3_worthOfCount 12 = .ok (.getfield 44, 3) := by decide +kernel
theorem dX3_worthOfCount_15 : decode cX3_worthOfCount 15 = .ok (.iconst 2, 1) := by decide +kernel
theorem dX3_worthOfCount_16 : decode cX3_worthOfCount 16 = .ok (.if_icmp .ne 14, 3) := by decide +kernel
theorem dX3_worthOfCount_19 : decode cX3_worthOfCount 19 = .ok (.iload_n 1, 1) := by decide +kernel
theorem dX3_worthOfCount_20 : decode cX3_worthOfCount 20 = .ok (.aload_n 0, 1) := by decide +kernel
theorem dX3_worthOfCount_21 : decode cX3_worthOfCount 21 = .ok (.getfield 78, 3) := by decide +kernel
theorem dX3_worthOfCount_24 : decode cX3_worthOfCount 24 = .ok (.if_icmp .lt 18, 3) := by decide +kernel
theorem dX3_worthOfCount_27 : decode cX3_worthOfCount 27 = .ok (.goto 11, 3) := by decide +kernel
theorem dX3_worthOfCount_30 : decode cX3_worthOfCount 30 = .ok (.iload_n 1, 1) := by decide +kernel
theorem dX3_worthOfCount_31 : decode cX3_worthOfCount 31 = .ok (.aload_n 0, 1) := by decide +kernel
theorem dX3_worthOfCount_32 : decode cX3_worthOfCount 32 = .ok (.getfield 78, 3) := by decide +kernel
theorem dX3_worthOfCount_35 : decode cX3_worthOfCount 35 = .ok (.if_icmp .ne 7, 3) := by decide +kernel
theorem dX3_worthOfCount_38 : decode cX3_worthOfCount 38 = .ok (.lconst 1, 1) := by decide +kernel
theorem dX3_worthOfCount_39 : decode cX3_worthOfCount 39 = .ok (.goto 4, 3) := by decide +kernel
theorem dX3_worthOfCount_42 : decode cX3_worthOfCount 42 = .ok (.lconst 0, 1) := by decide +kernel
theorem dX3_worthOfCount_43 : decode cX3_worthOfCount 43 = .ok (.lreturn, 1) := by decide +kernel
theorem dX3_settle_0 : decode cX3_settle 0 = .ok (.aload_n 0, 1) := by decide +kernel
theorem dX3_settle_1 : decode cX3_settle 1 = .ok (.getfield 14, 3) := by decide +kernel
theorem dX3_settle_4 : decode cX3_settle 4 = .ok (.iload_n 1, 1) := by decide +kernel
theorem dX3_settle_5 : decode cX3_settle 5 = .ok (.iload_n 2, 1) := by decide +kernel
theorem dX3_settle_6 : decode cX3_settle 6 = .ok (.iload_n 3, 1) := by decide +kernel
theorem dX3_settle_7 : decode cX3_settle 7 = .ok (.invokevirtual 92, 3) := by decide +kernel
theorem dX3_settle_10 : decode cX3_settle 10 = .ok (.istore 5, 2) := by decide +kernel
theorem dX3_settle_12 : decode cX3_settle 12 = .ok (.iload 5, 2) := by decide +kernel
theorem dX3_settle_14 : decode cX3_settle 14 = .ok (.iconst 2, 1) := by decide +kernel
theorem dX3_settle_15 : decode cX3_settle 15 = .ok (.if_icmp .ne 21, 3) := by decide +kernel
theorem dX3_settle_18 : decode cX3_settle 18 = .ok (.ldc2_w 138, 3) := by decide +kernel
theorem dX3_settle_21 : decode cX3_settle 21 = .ok (.aload_n 0, 1) := by decide +kernel
theorem dX3_settle_22 : decode cX3_settle 22 = .ok (.aload_n 0, 1) := by decide +kernel
theorem dX3_settle_23 : decode cX3_settle 23 = .ok (.getfield 14, 3) := by decide +kernel
theorem dX3_settle_26 : decode cX3_settle 26 = .ok (.iload_n 1, 1) := by decide +kernel
theorem dX3_settle_27 : decode cX3_settle 27 = .ok (.iload_n 2, 1) := by decide +kernel
theorem dX3_settle_28 : decode cX3_settle 28 = .ok (.invokevirtual 140, 3) := by decide +kernel
theorem dX3_settle_31 : decode cX3_settle 31 = .ok (.invokevirtual 143, 3) := by decide +kernel
theorem dX3_settle_34 : decode cX3_settle 34 = .ok (.lmul, 1) := by decide +kernel
theorem dX3_settle_35 : decode cX3_settle 35 = .ok (.lreturn, 1) := by decide +kernel
theorem dX3_settle_36 : decode cX3_settle 36 = .ok (.iload_n 1, 1) := by decide +kernel
theorem dX3_settle_37 : decode cX3_settle 37 = .ok (.iload_n 2, 1) := by decide +kernel
theorem dX3_settle_38 : decode cX3_settle 38 = .ok (.iload_n 3, 1) := by decide +kernel
theorem dX3_settle_39 : decode cX3_settle 39 = .ok (.invokestatic 95, 3) := by decide +kernel
theorem dX3_settle_42 : decode cX3_settle 42 = .ok (.istore 6, 2) := by decide +kernel
theorem dX3_settle_44 : decode cX3_settle 44 = .ok (.iload 4, 2) := by decide +kernel
theorem dX3_settle_46 : decode cX3_settle 46 = .ok (.bipush 6, 2) := by decide +kernel
theorem dX3_settle_48 : decode cX3_settle 48 = .ok (.if_icmp .gt 16, 3) := by decide +kernel
theorem dX3_settle_51 : decode cX3_settle 51 = .ok (.iload 6, 2) := by decide +kernel
theorem dX3_settle_53 : decode cX3_settle 53 = .ok (.ifCond .lt 11, 3) := by decide +kernel
theorem dX3_settle_56 : decode cX3_settle 56 = .ok (.iload 6, 2) := by decide +kernel
theorem dX3_settle_58 : decode cX3_settle 58 = .ok (.sipush 3822, 3) := by decide +kernel
theorem dX3_settle_61 : decode cX3_settle 61 = .ok (.if_icmp .lt 5, 3) := by decide +kernel
theorem dX3_settle_64 : decode cX3_settle 64 = .ok (.lconst 0, 1) := by decide +kernel
theorem dX3_settle_65 : decode cX3_settle 65 = .ok (.lreturn, 1) := by decide +kernel
theorem dX3_settle_66 : decode cX3_settle 66 = .ok (.aload_n 0, 1) := by decide +kernel
theorem dX3_settle_67 : decode cX3_settle 67 = .ok (.getfield 47, 3) := by decide +kernel
theorem dX3_settle_70 : decode cX3_settle 70 = .ok (.iload 6, 2) := by decide +kernel
theorem dX3_settle_72 : decode cX3_settle 72 = .ok (.laload, 1) := by decide +kernel
theorem dX3_settle_73 : decode cX3_settle 73 = .ok (.ldc2_w 60, 3) := by decide +kernel
theorem dX3_settle_76 : decode cX3_settle 76 = .ok (.lcmp, 1) := by decide +kernel
theorem dX3_settle_77 : decode cX3_settle 77 = .ok (.ifCond .ne 205, 3) := by decide +kernel
theorem dX3_settle_80 : decode cX3_settle 80 = .ok (.aload_n 0, 1) := by decide +kernel
theorem dX3_settle_81 : decode cX3_settle 81 = .ok (.iload_n 1, 1) := by decide +kernel
theorem dX3_settle_82 : decode cX3_settle 82 = .ok (.iload_n 2, 1) := by decide +kernel
theorem dX3_settle_83 : decode cX3_settle 83 = .ok (.iload_n 3, 1) := by decide +kernel
theorem dX3_settle_84 : decode cX3_settle 84 = .ok (.iload 5, 2) := by decide +kernel
theorem dX3_settle_86 : decode cX3_settle 86 = .ok (.invokevirtual 147, 3) := by decide +kernel
theorem dX3_settle_89 : decode cX3_settle 89 = .ok (.istore 7, 2) := by decide +kernel
theorem dX3_settle_91 : decode cX3_settle 91 = .ok (.iload 7, 2) := by decide +kernel
theorem dX3_settle_93 : decode cX3_settle 93 = .ok (.iconst 2, 1) := by decide +kernel
theorem dX3_settle_94 : decode cX3_settle 94 = .ok (.if_icmp .ne 7, 3) := by decide +kernel
theorem dX3_settle_97 : decode cX3_settle 97 = .ok (.lconst 0, 1) := by decide +kernel
theorem dX3_settle_98 : decode cX3_settle 98 = .ok (.goto 13, 3) := by decide +kernel
theorem dX3_settle_101 : decode cX3_settle 101 = .ok (.aload_n 0, 1) := by decide +kernel
theorem dX3_settle_102 : decode cX3_settle 102 = .ok (.iconst 1, 1) := by decide +kernel
theorem dX3_settle_103 : decode cX3_settle 103 = .ok (.iload_n 1, 1) := by decide +kernel
theorem dX3_settle_104 : decode cX3_settle 104 = .ok (.iload_n 2, 1) := by decide +kernel
theorem dX3_settle_105 : decode cX3_settle 105 = .ok (.iload_n 3, 1) := by decide +kernel
theorem dX3_settle_106 : decode cX3_settle 106 = .ok (.iload 4, 2) := by decide +kernel
theorem dX3_settle_108 : decode cX3_settle 108 = .ok (.invokevirtual 113, 3) := by decide +kernel
theorem dX3_settle_111 : decode cX3_settle 111 = .ok (.lstore 8, 2) := by decide +kernel
theorem dX3_settle_113 : decode cX3_settle 113 = .ok (.iload 7, 2) := by decide +kernel
theorem dX3_settle_115 : decode cX3_settle 115 = .ok (.iconst 1, 1) := by decide +kernel
theorem dX3_settle_116 : decode cX3_settle 116 = .ok (.if_icmp .ne 7, 3) := by decide +kernel
theorem dX3_settle_119 : decode cX3_settle 119 = .ok (.lconst 0, 1) := by decide +kernel
theorem dX3_settle_120 : decode cX3_settle 120 = .ok (.goto 13, 3) := by decide +kernel
theorem dX3_settle_123 : decode cX3_settle 123 = .ok (.aload_n 0, 1) := by decide +kernel
theorem dX3_settle_124 : decode cX3_settle 124 = .ok (.iconst 2, 1) := by decide +kernel
theorem dX3_settle_125 : decode cX3_settle 125 = .ok (.iload_n 1, 1) := by decide +kernel
theorem dX3_settle_126 : decode cX3_settle 126 = .ok (.iload_n 2, 1) := by decide +kernel
theorem dX3_settle_127 : decode cX3_settle 127 = .ok (.iload_n 3, 1) := by decide +kernel
theorem dX3_settle_128 : decode cX3_settle 128 = .ok (.iload 4, 2) := by decide +kernel
theorem dX3_settle_130 : decode cX3_settle 130 = .ok (.invokevirtual 113, 3) := by decide +kernel
theorem dX3_settle_133 : decode cX3_settle 133 = .ok (.lstore 10, 2) := by decide +kernel
theorem dX3_settle_135 : decode cX3_settle 135 = .ok (.iload 5, 2) := by decide +kernel
theorem dX3_settle_137 : decode cX3_settle 137 = .ok (.ifCond .ne 19, 3) := by decide +kernel
theorem dX3_settle_140 : decode cX3_settle 140 = .ok (.lload 10, 2) := by decide +kernel
theorem dX3_settle_142 : decode cX3_settle 142 = .ok (.lload 8, 2) := by decide +kernel
theorem dX3_settle_144 : decode cX3_settle 144 = .ok (.lcmp, 1) := by decide +kernel
theorem dX3_settle_145 : decode cX3_settle 145 = .ok (.ifCond .le 7, 3) := by decide +kernel
theorem dX3_settle_148 : decode cX3_settle 148 = .ok (.iconst 1, 1) := by decide +kernel
theorem dX3_settle_149 : decode cX3_settle 149 = .ok (.goto 20, 3) := by decide +kernel
theorem dX3_settle_152 : decode cX3_settle 152 = .ok (.iconst 0, 1) := by decide +kernel
theorem dX3_settle_153 : decode cX3_settle 153 = .ok (.goto 16, 3) := by decide +kernel
theorem dX3_settle_156 : decode cX3_settle 156 = .ok (.lload 10, 2) := by decide +kernel
theorem dX3_settle_158 : decode cX3_settle 158 = .ok (.lload 8, 2) := by decide +kernel
theorem dX3_settle_160 : decode cX3_settle 160 = .ok (.lcmp, 1) := by decide +kernel
theorem dX3_settle_161 : decode cX3_settle 161 = .ok (.ifCond .ge 7, 3) := by decide +kernel
theorem dX3_settle_164 : decode cX3_settle 164 = .ok (.iconst 1, 1) := by decide +kernel
theorem dX3_settle_165 : decode cX3_settle 165 = .ok (.goto 4, 3) := by decide +kernel
theorem dX3_settle_168 : decode cX3_settle 168 = .ok (.iconst 0, 1) := by decide +kernel
theorem dX3_settle_169 : decode cX3_settle 169 = .ok (.istore 12, 2) := by decide +kernel
theorem dX3_settle_171 : decode cX3_settle 171 = .ok (.iload 7, 2) := by decide +kernel
theorem dX3_settle_173 : decode cX3_settle 173 = .ok (.ifCond .ne 8, 3) := by decide +kernel
theorem dX3_settle_176 : decode cX3_settle 176 = .ok (.iload 12, 2) := by decide +kernel
theorem dX3_settle_178 : decode cX3_settle 178 = .ok (.goto 14, 3) := by decide +kernel
theorem dX3_settle_181 : decode cX3_settle 181 = .ok (.iload 7, 2) := by decide +kernel
theorem dX3_settle_183 : decode cX3_settle 183 = .ok (.iconst 2, 1) := by decide +kernel
theorem dX3_settle_184 : decode cX3_settle 184 = .ok (.if_icmp .ne 7, 3) := by decide +kernel
theorem dX3_settle_187 : decode cX3_settle 187 = .ok (.iconst 1, 1) := by decide +kernel
theorem dX3_settle_188 : decode cX3_settle 188 = .ok (.goto 4, 3) := by decide +kernel
theorem dX3_settle_191 : decode cX3_settle 191 = .ok (.iconst 0, 1) := by decide +kernel
theorem dX3_settle_192 : decode cX3_settle 192 = .ok (.istore 13, 2) := by decide +kernel
theorem dX3_settle_194 : decode cX3_settle 194 = .ok (.aload_n 0, 1) := by decide +kernel
theorem dX3_settle_195 : decode cX3_settle 195 = .ok (.getfield 47, 3) := by decide +kernel
theorem dX3_settle_198 : decode cX3_settle 198 = .ok (.iload 6, 2) := by decide +kernel
theorem dX3_settle_200 : decode cX3_settle 200 = .ok (.iload 13, 2) := by decide +kernel
theorem dX3_settle_202 : decode cX3_settle 202 = .ok (.ifCond .eq 14, 3) := by decide +kernel
theorem dX3_settle_205 : decode cX3_settle 205 = .ok (.ldc2_w 138, 3) := by decide +kernel
theorem dX3_settle_208 : decode cX3_settle 208 = .ok (.lload 10, 2) := by decide +kernel
theorem dX3_settle_210 : decode cX3_settle 210 = .ok (.lmul, 1) := by decide +kernel
theorem dX3_settle_211 : decode cX3_settle 211 = .ok (.lconst 1, 1) := by decide +kernel
theorem dX3_settle_212 : decode cX3_settle 212 = .ok (.ladd, 1) := by decide +kernel
theorem dX3_settle_213 : decode cX3_settle 213 = .ok (.goto 9, 3) := by decide +kernel
theorem dX3_settle_216 : decode cX3_settle 216 = .ok (.ldc2_w 138, 3) := by decide +kernel
theorem dX3_settle_219 : decode cX3_settle 219 = .ok (.lload 8, 2) := by decide +kernel
theorem dX3_settle_221 : decode cX3_settle 221 = .ok (.lmul, 1) := by decide +kernel
theorem dX3_settle_222 : decode cX3_settle 222 = .ok (.lastore, 1) := by decide +kernel
theorem dX3_settle_223 : decode cX3_settle 223 = .ok (.aload_n 0, 1) := by decide +kernel
theorem dX3_settle_224 : decode cX3_settle 224 = .ok (.getfield 44, 3) := by decide +kernel
theorem dX3_settle_227 : decode cX3_settle 227 = .ok (.iconst 1, 1) := by decide +kernel
theorem dX3_settle_228 : decode cX3_settle 228 = .ok (.if_icmp .ne 54, 3) := by decide +kernel
theorem dX3_settle_231 : decode cX3_settle 231 = .ok (.aload_n 0, 1) := by decide +kernel
theorem dX3_settle_232 : decode cX3_settle 232 = .ok (.getfield 78, 3) := by decide +kernel
theorem dX3_settle_235 : decode cX3_settle 235 = .ok (.iconst (-1), 1) := by decide +kernel
theorem dX3_settle_236 : decode cX3_settle 236 = .ok (.if_icmp .ne 46, 3) := by decide +kernel
theorem dX3_settle_239 : decode cX3_settle 239 = .ok (.aload_n 0, 1) := by decide +kernel
theorem dX3_settle_240 : decode cX3_settle 240 = .ok (.getfield 81, 3) := by decide +kernel
theorem dX3_settle_243 : decode cX3_settle 243 = .ok (.iconst (-1), 1) := by decide +kernel
theorem dX3_settle_244 : decode cX3_settle 244 = .ok (.if_icmp .ne 38, 3) := by decide +kernel
theorem dX3_settle_247 : decode cX3_settle 247 = .ok (.iload 13, 2) := by decide +kernel
theorem dX3_settle_249 : decode cX3_settle 249 = .ok (.ifCond .eq 7, 3) := by decide +kernel
theorem dX3_settle_252 : decode cX3_settle 252 = .ok (.iconst 2, 1) := by decide +kernel
theorem dX3_settle_253 : decode cX3_settle 253 = .ok (.goto 4, 3) := by decide +kernel
theorem dX3_settle_256 : decode cX3_settle 256 = .ok (.iconst 1, 1) := by decide +kernel
theorem dX3_settle_257 : decode cX3_settle 257 = .ok (.istore 14, 2) := by decide +kernel
theorem dX3_settle_259 : decode cX3_settle 259 = .ok (.aload_n 0, 1) := by decide +kernel
theorem dX3_settle_260 : decode cX3_settle 260 = .ok (.getfield 40, 3) := by decide +kernel
theorem dX3_settle_263 : decode cX3_settle 263 = .ok (.iload 6, 2) := by decide +kernel
theorem dX3_settle_265 : decode cX3_settle 265 = .ok (.aload_n 0, 1) := by decide +kernel
theorem dX3_settle_266 : decode cX3_settle 266 = .ok (.getfield 40, 3) := by decide +kernel
theorem dX3_settle_269 : decode cX3_settle 269 = .ok (.iload 6, 2) := by decide +kernel
theorem dX3_settle_271 : decode cX3_settle 271 = .ok (.iaload, 1) := by decide +kernel
theorem dX3_settle_272 : decode cX3_settle 272 = .ok (.ldc 150, 2) := by decide +kernel
theorem dX3_settle_274 : decode cX3_settle 274 = .ok (.iand, 1) := by decide +kernel
theorem dX3_settle_275 : decode cX3_settle 275 = .ok (.iload 14, 2) := by decide +kernel
theorem dX3_settle_277 : decode cX3_settle 277 = .ok (.bipush 21, 2) := by decide +kernel
theorem dX3_settle_279 : decode cX3_settle 279 = .ok (.ishl, 1) := by decide +kernel
theorem dX3_settle_280 : decode cX3_settle 280 = .ok (.ior, 1) := by decide +kernel
theorem dX3_settle_281 : decode cX3_settle 281 = .ok (.iastore, 1) := by decide +kernel
theorem dX3_settle_282 : decode cX3_settle 282 = .ok (.aload_n 0, 1) := by decide +kernel
theorem dX3_settle_283 : decode cX3_settle 283 = .ok (.getfield 47, 3) := by decide +kernel
theorem dX3_settle_286 : decode cX3_settle 286 = .ok (.iload 6, 2) := by decide +kernel
theorem dX3_settle_288 : decode cX3_settle 288 = .ok (.laload, 1) := by decide +kernel
theorem dX3_settle_289 : decode cX3_settle 289 = .ok (.lreturn, 1) := by decide +kernel
theorem dX3_throwTold_0 : decode cX3_throwTold 0 = .ok (.aload_n 0, 1) := by decide +kernel
theorem dX3_throwTold_1 : decode cX3_throwTold 1 = .ok (.getfield 14, 3) := by decide +kernel
theorem dX3_throwTold_4 : decode cX3_throwTold 4 = .ok (.iload_n 1, 1) := by decide +kernel
theorem dX3_throwTold_5 : decode cX3_throwTold 5 = .ok (.iload_n 2, 1) := by decide +kernel
theorem dX3_throwTold_6 : decode cX3_throwTold 6 = .ok (.iload 4, 2) := by decide +kernel
theorem dX3_throwTold_8 : decode cX3_throwTold 8 = .ok (.invokevirtual 151, 3) := by decide +kernel
theorem dX3_throwTold_11 : decode cX3_throwTold 11 = .ok (.ifCond .ne 5, 3) := by decide +kernel
theorem dX3_throwTold_14 : decode cX3_throwTold 14 = .ok (.iconst 1, 1) := by decide +kernel
theorem dX3_throwTold_15 : decode cX3_throwTold 15 = .ok (.ireturn, 1) := by decide +kernel
theorem dX3_throwTold_16 : decode cX3_throwTold 16 = .ok (.aload_n 0, 1) := by decide +kernel
theorem dX3_throwTold_17 : decode cX3_throwTold 17 = .ok (.getfield 44, 3) := by decide +kernel
theorem dX3_throwTold_20 : decode cX3_throwTold 20 = .ok (.iconst 3, 1) := by decide +kernel
theorem dX3_throwTold_21 : decode cX3_throwTold 21 = .ok (.if_icmp .ne 14, 3) := by decide +kernel
theorem dX3_throwTold_24 : decode cX3_throwTold 24 = .ok (.aload_n 0, 1) := by decide +kernel
theorem dX3_throwTold_25 : decode cX3_throwTold 25 = .ok (.iload_n 1, 1) := by decide +kernel
theorem dX3_throwTold_26 : decode cX3_throwTold 26 = .ok (.iload_n 2, 1) := by decide +kernel
theorem dX3_throwTold_27 : decode cX3_throwTold 27 = .ok (.iload_n 3, 1) := by decide +kernel
theorem dX3_throwTold_28 : decode cX3_throwTold 28 = .ok (.invokestatic 95, 3) := by decide +kernel
theorem dX3_throwTold_31 : decode cX3_throwTold 31 = .ok (.invokevirtual 98, 3) := by decide +kernel
theorem dX3_throwTold_34 : decode cX3_throwTold 34 = .ok (.ireturn, 1) := by decide +kernel
theorem dX3_throwTold_35 : decode cX3_throwTold 35 = .ok (.iload 4, 2) := by decide +kernel
theorem dX3_throwTold_37 : decode cX3_throwTold 37 = .ok (.ifCond .ne 10, 3) := by decide +kernel
theorem dX3_throwTold_40 : decode cX3_throwTold 40 = .ok (.aload_n 0, 1) := by decide +kernel
theorem dX3_throwTold_41 : decode cX3_throwTold 41 = .ok (.getfield 78, 3) := by decide +kernel
theorem dX3_throwTold_44 : decode cX3_throwTold 44 = .ok (.goto 7, 3) := by decide +kernel
theorem dX3_throwTold_47 : decode cX3_throwTold 47 = .ok (.aload_n 0, 1) := by decide +kernel
theorem dX3_throwTold_48 : decode cX3_throwTold 48 = .ok (.getfield 81, 3) := by decide +kernel
theorem dX3_throwTold_51 : decode cX3_throwTold 51 = .ok (.istore 5, 2) := by decide +kernel
theorem dX3_throwTold_53 : decode cX3_throwTold 53 = .ok (.aload_n 0, 1) := by decide +kernel
theorem dX3_throwTold_54 : decode cX3_throwTold 54 = .ok (.getfield 44, 3) := by decide +kernel
theorem dX3_throwTold_57 : decode cX3_throwTold 57 = .ok (.iconst 1, 1) := by decide +kernel
theorem dX3_throwTold_58 : decode cX3_throwTold 58 = .ok (.if_icmp .ne 18, 3) := by decide +kernel
theorem dX3_throwTold_61 : decode cX3_throwTold 61 = .ok (.iload 5, 2) := by decide +kernel
theorem dX3_throwTold_63 : decode cX3_throwTold 63 = .ok (.ifCond .lt 13, 3) := by decide +kernel
theorem dX3_throwTold_66 : decode cX3_throwTold 66 = .ok (.iload 5, 2) := by decide +kernel
theorem dX3_throwTold_68 : decode cX3_throwTold 68 = .ok (.aload_n 0, 1) := by decide +kernel
theorem dX3_throwTold_69 : decode cX3_throwTold 69 = .ok (.getfield 25, 3) := by decide +kernel
theorem dX3_throwTold_72 : decode cX3_throwTold 72 = .ok (.arraylength, 1) := by decide +kernel
theorem dX3_throwTold_73 : decode cX3_throwTold 73 = .ok (.if_icmp .lt 5, 3) := by decide +kernel
theorem dX3_throwTold_76 : decode cX3_throwTold 76 = .ok (.iconst 0, 1) := by decide +kernel
theorem dX3_throwTold_77 : decode cX3_throwTold 77 = .ok (.ireturn, 1) := by decide +kernel
theorem dX3_throwTold_78 : decode cX3_throwTold 78 = .ok (.aload_n 0, 1) := by decide +kernel
theorem dX3_throwTold_79 : decode cX3_throwTold 79 = .ok (.iload_n 1, 1) := by decide +kernel
theorem dX3_throwTold_80 : decode cX3_throwTold 80 = .ok (.iload_n 2, 1) := by decide +kernel
theorem dX3_throwTold_81 : decode cX3_throwTold 81 = .ok (.iload_n 3, 1) := by decide +kernel
theorem dX3_throwTold_82 : decode cX3_throwTold 82 = .ok (.iload 4, 2) := by decide +kernel
theorem dX3_throwTold_84 : decode cX3_throwTold 84 = .ok (.invokevirtual 155, 3) := by decide +kernel
theorem dX3_throwTold_87 : decode cX3_throwTold 87 = .ok (.aload_n 0, 1) := by decide +kernel
theorem dX3_throwTold_88 : decode cX3_throwTold 88 = .ok (.getfield 32, 3) := by decide +kernel
theorem dX3_throwTold_91 : decode cX3_throwTold 91 = .ok (.aload_n 0, 1) := by decide +kernel
theorem dX3_throwTold_92 : decode cX3_throwTold 92 = .ok (.getfield 25, 3) := by decide +kernel
theorem dX3_throwTold_95 : decode cX3_throwTold 95 = .ok (.iload 5, 2) := by decide +kernel
theorem dX3_throwTold_97 : decode cX3_throwTold 97 = .ok (.aaload, 1) := by decide +kernel
theorem dX3_throwTold_98 : decode cX3_throwTold 98 = .ok (.bipush 114, 2) := by decide +kernel
theorem dX3_throwTold_100 : decode cX3_throwTold 100 = .ok (.invokevirtual 159, 3) := by decide +kernel
theorem dX3_throwTold_103 : decode cX3_throwTold 103 = .ok (.iconst 2, 1) := by decide +kernel
theorem dX3_throwTold_104 : decode cX3_throwTold 104 = .ok (.if_icmp .ne 7, 3) := by decide +kernel
theorem dX3_throwTold_107 : decode cX3_throwTold 107 = .ok (.iconst 2, 1) := by decide +kernel
theorem dX3_throwTold_108 : decode cX3_throwTold 108 = .ok (.goto 4, 3) := by decide +kernel
theorem dX3_throwTold_111 : decode cX3_throwTold 111 = .ok (.iconst 1, 1) := by decide +kernel
theorem dX3_throwTold_112 : decode cX3_throwTold 112 = .ok (.ireturn, 1) := by decide +kernel
theorem dX3_worthOfThrow_0 : decode cX3_worthOfThrow 0 = .ok (.aload_n 0, 1) := by decide +kernel
theorem dX3_worthOfThrow_1 : decode cX3_worthOfThrow 1 = .ok (.getfield 14, 3) := by decide +kernel
theorem dX3_worthOfThrow_4 : decode cX3_worthOfThrow 4 = .ok (.iload_n 2, 1) := by decide +kernel
theorem dX3_worthOfThrow_5 : decode cX3_worthOfThrow 5 = .ok (.iload_n 3, 1) := by decide +kernel
theorem dX3_worthOfThrow_6 : decode cX3_worthOfThrow 6 = .ok (.iload 4, 2) := by decide +kernel
theorem dX3_worthOfThrow_8 : decode cX3_worthOfThrow 8 = .ok (.invokevirtual 92, 3) := by decide +kernel
theorem dX3_worthOfThrow_11 : decode cX3_worthOfThrow 11 = .ok (.istore 6, 2) := by decide +kernel
theorem dX3_worthOfThrow_13 : decode cX3_worthOfThrow 13 = .ok (.aload_n 0, 1) := by decide +kernel
theorem dX3_worthOfThrow_14 : decode cX3_worthOfThrow 14 = .ok (.iload_n 2, 1) := by decide +kernel
theorem dX3_worthOfThrow_15 : decode cX3_worthOfThrow 15 = .ok (.iload_n 3, 1) := by decide +kernel
theorem dX3_worthOfThrow_16 : decode cX3_worthOfThrow 16 = .ok (.iload 4, 2) := by decide +kernel
theorem dX3_worthOfThrow_18 : decode cX3_worthOfThrow 18 = .ok (.invokevirtual 123, 3) := by decide +kernel
theorem dX3_worthOfThrow_21 : decode cX3_worthOfThrow 21 = .ok (.istore 7, 2) := by decide +kernel
theorem dX3_worthOfThrow_23 : decode cX3_worthOfThrow 23 = .ok (.iload_n 1, 1) := by decide +kernel
theorem dX3_worthOfThrow_24 : decode cX3_worthOfThrow 24 = .ok (.iconst 1, 1) := by decide +kernel
theorem dX3_worthOfThrow_25 : decode cX3_worthOfThrow 25 = .ok (.if_icmp .ne 7, 3) := by decide +kernel
theorem dX3_worthOfThrow_28 : decode cX3_worthOfThrow 28 = .ok (.iconst 0, 1) := by decide +kernel
theorem dX3_worthOfThrow_29 : decode cX3_worthOfThrow 29 = .ok (.goto 4, 3) := by decide +kernel
theorem dX3_worthOfThrow_32 : decode cX3_worthOfThrow 32 = .ok (.iconst 4, 1) := by decide +kernel
theorem dX3_worthOfThrow_33 : decode cX3_worthOfThrow 33 = .ok (.istore 8, 2) := by decide +kernel
theorem dX3_worthOfThrow_35 : decode cX3_worthOfThrow 35 = .ok (.iload_n 1, 1) := by decide +kernel
theorem dX3_worthOfThrow_36 : decode cX3_worthOfThrow 36 = .ok (.iconst 1, 1) := by decide +kernel
theorem dX3_worthOfThrow_37 : decode cX3_worthOfThrow 37 = .ok (.if_icmp .ne 7, 3) := by decide +kernel
theorem dX3_worthOfThrow_40 : decode cX3_worthOfThrow 40 = .ok (.iconst 3, 1) := by decide +kernel
theorem dX3_worthOfThrow_41 : decode cX3_worthOfThrow 41 = .ok (.goto 5, 3) := by decide +kernel
theorem dX3_worthOfThrow_44 : decode cX3_worthOfThrow 44 = .ok (.bipush 6, 2) := by decide +kernel
theorem dX3_worthOfThrow_46 : decode cX3_worthOfThrow 46 = .ok (.istore 9, 2) := by decide +kernel
theorem dX3_worthOfThrow_48 : decode cX3_worthOfThrow 48 = .ok (.lconst 0, 1) := by decide +kernel
theorem dX3_worthOfThrow_49 : decode cX3_worthOfThrow 49 = .ok (.lstore 10, 2) := by decide +kernel
theorem dX3_worthOfThrow_51 : decode cX3_worthOfThrow 51 = .ok (.iload 8, 2) := by decide +kernel
theorem dX3_worthOfThrow_53 : decode cX3_worthOfThrow 53 = .ok (.istore 12, 2) := by decide +kernel
theorem dX3_worthOfThrow_55 : decode cX3_worthOfThrow 55 = .ok (.iload 12, 2) := by decide +kernel
theorem dX3_worthOfThrow_57 : decode cX3_worthOfThrow 57 = .ok (.iload 9, 2) := by decide +kernel
theorem dX3_worthOfThrow_59 : decode cX3_worthOfThrow 59 = .ok (.if_icmp .gt 104, 3) := by decide +kernel
theorem dX3_worthOfThrow_62 : decode cX3_worthOfThrow 62 = .ok (.iload 7, 2) := by decide +kernel
theorem dX3_worthOfThrow_64 : decode cX3_worthOfThrow 64 = .ok (.iload 12, 2) := by decide +kernel
theorem dX3_worthOfThrow_66 : decode cX3_worthOfThrow 66 = .ok (.invokestatic 126, 3) := by decide +kernel
theorem dX3_worthOfThrow_69 : decode cX3_worthOfThrow 69 = .ok (.istore 13, 2) := by decide +kernel
theorem dX3_worthOfThrow_71 : decode cX3_worthOfThrow 71 = .ok (.iload 13, 2) := by decide +kernel
theorem dX3_worthOfThrow_73 : decode cX3_worthOfThrow 73 = .ok (.ifCond .le 84, 3) := by decide +kernel
theorem dX3_worthOfThrow_76 : decode cX3_worthOfThrow 76 = .ok (.aload_n 0, 1) := by decide +kernel
theorem dX3_worthOfThrow_77 : decode cX3_worthOfThrow 77 = .ok (.getfield 14, 3) := by decide +kernel
theorem dX3_worthOfThrow_80 : decode cX3_worthOfThrow 80 = .ok (.iload_n 2, 1) := by decide +kernel
theorem dX3_worthOfThrow_81 : decode cX3_worthOfThrow 81 = .ok (.iload_n 3, 1) := by decide +kernel
theorem dX3_worthOfThrow_82 : decode cX3_worthOfThrow 82 = .ok (.iload 6, 2) := by decide +kernel
theorem dX3_worthOfThrow_84 : decode cX3_worthOfThrow 84 = .ok (.iload 12, 2) := by decide +kernel
theorem dX3_worthOfThrow_86 : decode cX3_worthOfThrow 86 = .ok (.invokevirtual 163, 3) := by decide +kernel
theorem dX3_worthOfThrow_89 : decode cX3_worthOfThrow 89 = .ok (.istore 14, 2) := by decide +kernel
theorem dX3_worthOfThrow_91 : decode cX3_worthOfThrow 91 = .ok (.aload_n 0, 1) := by decide +kernel
theorem dX3_worthOfThrow_92 : decode cX3_worthOfThrow 92 = .ok (.getfield 14, 3) := by decide +kernel
theorem dX3_worthOfThrow_95 : decode cX3_worthOfThrow 95 = .ok (.iload_n 2, 1) := by decide +kernel
theorem dX3_worthOfThrow_96 : decode cX3_worthOfThrow 96 = .ok (.iload_n 3, 1) := by decide +kernel
theorem dX3_worthOfThrow_97 : decode cX3_worthOfThrow 97 = .ok (.iload 6, 2) := by decide +kernel
theorem dX3_worthOfThrow_99 : decode cX3_worthOfThrow 99 = .ok (.iload 12, 2) := by decide +kernel
theorem dX3_worthOfThrow_101 : decode cX3_worthOfThrow 101 = .ok (.invokevirtual 166, 3) := by decide +kernel
theorem dX3_worthOfThrow_104 : decode cX3_worthOfThrow 104 = .ok (.istore 15, 2) := by decide +kernel
theorem dX3_worthOfThrow_106 : decode cX3_worthOfThrow 106 = .ok (.iload 6, 2) := by decide +kernel
theorem dX3_worthOfThrow_108 : decode cX3_worthOfThrow 108 = .ok (.ifCond .ne 20, 3) := by decide +kernel
theorem dX3_worthOfThrow_111 : decode cX3_worthOfThrow 111 = .ok (.aload_n 0, 1) := by decide +kernel
theorem dX3_worthOfThrow_112 : decode cX3_worthOfThrow 112 = .ok (.iload 14, 2) := by decide +kernel
theorem dX3_worthOfThrow_114 : decode cX3_worthOfThrow 114 = .ok (.iload 15, 2) := by decide +kernel
theorem dX3_worthOfThrow_116 : decode cX3_worthOfThrow 116 = .ok (.iload 6, 2) := by decide +kernel
theorem dX3_worthOfThrow_118 : decode cX3_worthOfThrow 118 = .ok (.iload 5, 2) := by decide +kernel
theorem dX3_worthOfThrow_120 : decode cX3_worthOfThrow 120 = .ok (.iconst 1, 1) := by decide +kernel
theorem dX3_worthOfThrow_121 : decode cX3_worthOfThrow 121 = .ok (.iadd, 1) := by decide +kernel
theorem dX3_worthOfThrow_122 : decode cX3_worthOfThrow 122 = .ok (.invokevirtual 84, 3) := by decide +kernel
theorem dX3_worthOfThrow_125 : decode cX3_worthOfThrow 125 = .ok (.goto 17, 3) := by decide +kernel
theorem dX3_worthOfThrow_128 : decode cX3_worthOfThrow 128 = .ok (.aload_n 0, 1) := by decide +kernel
theorem dX3_worthOfThrow_129 : decode cX3_worthOfThrow 129 = .ok (.iload 15, 2) := by decide +kernel
theorem dX3_worthOfThrow_131 : decode cX3_worthOfThrow 131 = .ok (.iload 14, 2) := by decide +kernel
theorem dX3_worthOfThrow_133 : decode cX3_worthOfThrow 133 = .ok (.iload 6, 2) := by decide +kernel
theorem dX3_worthOfThrow_135 : decode cX3_worthOfThrow 135 = .ok (.iload 5, 2) := by decide +kernel
theorem dX3_worthOfThrow_137 : decode cX3_worthOfThrow 137 = .ok (.iconst 1, 1) := by decide +kernel
theorem dX3_worthOfThrow_138 : decode cX3_worthOfThrow 138 = .ok (.iadd, 1) := by decide +kernel
theorem dX3_worthOfThrow_139 : decode cX3_worthOfThrow 139 = .ok (.invokevirtual 84, 3) := by decide +kernel
theorem dX3_worthOfThrow_142 : decode cX3_worthOfThrow 142 = .ok (.lstore 16, 2) := by decide +kernel
theorem dX3_worthOfThrow_144 : decode cX3_worthOfThrow 144 = .ok (.lload 10, 2) := by decide +kernel
theorem dX3_worthOfThrow_146 : decode cX3_worthOfThrow 146 = .ok (.iload 13, 2) := by decide +kernel
theorem dX3_worthOfThrow_148 : decode cX3_worthOfThrow 148 = .ok (.i2l, 1) := by decide +kernel
theorem dX3_worthOfThrow_149 : decode cX3_worthOfThrow 149 = .ok (.lload 16, 2) := by decide +kernel
theorem dX3_worthOfThrow_151 : decode cX3_worthOfThrow 151 = .ok (.iconst 1, 1) := by decide +kernel
theorem dX3_worthOfThrow_152 : decode cX3_worthOfThrow 152 = .ok (.lshr, 1) := by decide +kernel
theorem dX3_worthOfThrow_153 : decode cX3_worthOfThrow 153 = .ok (.lmul, 1) := by decide +kernel
theorem dX3_worthOfThrow_154 : decode cX3_worthOfThrow 154 = .ok (.ladd, 1) := by decide +kernel
theorem dX3_worthOfThrow_155 : decode cX3_worthOfThrow 155 = .ok (.lstore 10, 2) := by decide +kernel
theorem dX3_worthOfThrow_157 : decode cX3_worthOfThrow 157 = .ok (.iinc 12 1, 3) := by decide +kernel
theorem dX3_worthOfThrow_160 : decode cX3_worthOfThrow 160 = .ok (.goto (-105), 3) := by decide +kernel
theorem dX3_worthOfThrow_163 : decode cX3_worthOfThrow 163 = .ok (.lload 10, 2) := by decide +kernel
theorem dX3_worthOfThrow_165 : decode cX3_worthOfThrow 165 = .ok (.lreturn, 1) := by decide +kernel
theorem dX3_partOfTenths_0 : decode cX3_partOfTenths 0 = .ok (.iload_n 0, 1) := by decide +kernel
theorem dX3_partOfTenths_1 : decode cX3_partOfTenths 1 = .ok (.bipush 15, 2) := by decide +kernel
theorem dX3_partOfTenths_3 : decode cX3_partOfTenths 3 = .ok (.iand, 1) := by decide +kernel
theorem dX3_partOfTenths_4 : decode cX3_partOfTenths 4 = .ok (.istore_n 2, 1) := by decide +kernel
theorem dX3_partOfTenths_5 : decode cX3_partOfTenths 5 = .ok (.iload_n 0, 1) := by decide +kernel
theorem dX3_partOfTenths_6 : decode cX3_partOfTenths 6 = .ok (.iconst 4, 1) := by decide +kernel
theorem dX3_partOfTenths_7 : decode cX3_partOfTenths 7 = .ok (.ishr, 1) := by decide +kernel
theorem dX3_partOfTenths_8 : decode cX3_partOfTenths 8 = .ok (.bipush 15, 2) := by decide +kernel
theorem dX3_partOfTenths_10 : decode cX3_partOfTenths 10 = .ok (.iand, 1) := by decide +kernel
theorem dX3_partOfTenths_11 : decode cX3_partOfTenths 11 = .ok (.istore_n 3, 1) := by decide +kernel
theorem dX3_partOfTenths_12 : decode cX3_partOfTenths 12 = .ok (.iload_n 0, 1) := by decide +kernel
theorem dX3_partOfTenths_13 : decode cX3_partOfTenths 13 = .ok (.bipush 8, 2) := by decide +kernel
theorem dX3_partOfTenths_15 : decode cX3_partOfTenths 15 = .ok (.ishr, 1) := by decide +kernel
theorem dX3_partOfTenths_16 : decode cX3_partOfTenths 16 = .ok (.bipush 15, 2) := by decide +kernel
theorem dX3_partOfTenths_18 : decode cX3_partOfTenths 18 = .ok (.iand, 1) := by decide +kernel
theorem dX3_partOfTenths_19 : decode cX3_partOfTenths 19 = .ok (.istore 4, 2) := by decide +kernel
theorem dX3_partOfTenths_21 : decode cX3_partOfTenths 21 = .ok (.iload_n 0, 1) := by decide +kernel
theorem dX3_partOfTenths_22 : decode cX3_partOfTenths 22 = .ok (.bipush 12, 2) := by decide +kernel
theorem dX3_partOfTenths_24 : decode cX3_partOfTenths 24 = .ok (.ishr, 1) := by decide +kernel
theorem dX3_partOfTenths_25 : decode cX3_partOfTenths 25 = .ok (.bipush 15, 2) := by decide +kernel
theorem dX3_partOfTenths_27 : decode cX3_partOfTenths 27 = .ok (.iand, 1) := by decide +kernel
theorem dX3_partOfTenths_28 : decode cX3_partOfTenths 28 = .ok (.istore 5, 2) := by decide +kernel
theorem dX3_partOfTenths_30 : decode cX3_partOfTenths 30 = .ok (.iload_n 0, 1) := by decide +kernel
theorem dX3_partOfTenths_31 : decode cX3_partOfTenths 31 = .ok (.bipush 16, 2) := by decide +kernel
theorem dX3_partOfTenths_33 : decode cX3_partOfTenths 33 = .ok (.ishr, 1) := by decide +kernel
theorem dX3_partOfTenths_34 : decode cX3_partOfTenths 34 = .ok (.bipush 15, 2) := by decide +kernel
theorem dX3_partOfTenths_36 : decode cX3_partOfTenths 36 = .ok (.iand, 1) := by decide +kernel
theorem dX3_partOfTenths_37 : decode cX3_partOfTenths 37 = .ok (.istore 6, 2) := by decide +kernel
theorem dX3_partOfTenths_39 : decode cX3_partOfTenths 39 = .ok (.iload_n 1, 1) := by decide +kernel
theorem dX3_partOfTenths_40 : decode cX3_partOfTenths 40 = .ok (.tableswitch 84 0 5 #[40, 45, 50, 56, 69, 75], 40) := by decide +kernel
theorem dX3_partOfTenths_80 : decode cX3_partOfTenths 80 = .ok (.bipush 10, 2) := by decide +kernel
theorem dX3_partOfTenths_82 : decode cX3_partOfTenths 82 = .ok (.iload_n 2, 1) := by decide +kernel
theorem dX3_partOfTenths_83 : decode cX3_partOfTenths 83 = .ok (.imul, 1) := by decide +kernel
theorem dX3_partOfTenths_84 : decode cX3_partOfTenths 84 = .ok (.ireturn, 1) := by decide +kernel
theorem dX3_partOfTenths_85 : decode cX3_partOfTenths 85 = .ok (.bipush 10, 2) := by decide +kernel
theorem dX3_partOfTenths_87 : decode cX3_partOfTenths 87 = .ok (.iload_n 3, 1) := by decide +kernel
theorem dX3_partOfTenths_88 : decode cX3_partOfTenths 88 = .ok (.imul, 1) := by decide +kernel
theorem dX3_partOfTenths_89 : decode cX3_partOfTenths 89 = .ok (.ireturn, 1) := by decide +kernel
theorem dX3_partOfTenths_90 : decode cX3_partOfTenths 90 = .ok (.bipush 10, 2) := by decide +kernel
theorem dX3_partOfTenths_92 : decode cX3_partOfTenths 92 = .ok (.iload 4, 2) := by decide +kernel
theorem dX3_partOfTenths_94 : decode cX3_partOfTenths 94 = .ok (.imul, 1) := by decide +kernel
theorem dX3_partOfTenths_95 : decode cX3_partOfTenths 95 = .ok (.ireturn, 1) := by decide +kernel
theorem dX3_partOfTenths_96 : decode cX3_partOfTenths 96 = .ok (.bipush 100, 2) := by decide +kernel
theorem dX3_partOfTenths_98 : decode cX3_partOfTenths 98 = .ok (.bipush 10, 2) := by decide +kernel
theorem dX3_partOfTenths_100 : decode cX3_partOfTenths 100 = .ok (.iload_n 2, 1) := by decide +kernel
theorem dX3_partOfTenths_101 : decode cX3_partOfTenths 101 = .ok (.iload_n 3, 1) := by decide +kernel
theorem dX3_partOfTenths_102 : decode cX3_partOfTenths 102 = .ok (.iadd, 1) := by decide +kernel
theorem dX3_partOfTenths_103 : decode cX3_partOfTenths 103 = .ok (.iload 4, 2) := by decide +kernel
theorem dX3_partOfTenths_105 : decode cX3_partOfTenths 105 = .ok (.iadd, 1) := by decide +kernel
theorem dX3_partOfTenths_106 : decode cX3_partOfTenths 106 = .ok (.imul, 1) := by decide +kernel
theorem dX3_partOfTenths_107 : decode cX3_partOfTenths 107 = .ok (.isub, 1) := by decide +kernel
theorem dX3_partOfTenths_108 : decode cX3_partOfTenths 108 = .ok (.ireturn, 1) := by decide +kernel
theorem dX3_partOfTenths_109 : decode cX3_partOfTenths 109 = .ok (.iload 5, 2) := by decide +kernel
theorem dX3_partOfTenths_111 : decode cX3_partOfTenths 111 = .ok (.iload 6, 2) := by decide +kernel
theorem dX3_partOfTenths_113 : decode cX3_partOfTenths 113 = .ok (.imul, 1) := by decide +kernel
theorem dX3_partOfTenths_114 : decode cX3_partOfTenths 114 = .ok (.ireturn, 1) := by decide +kernel
theorem dX3_partOfTenths_115 : decode cX3_partOfTenths 115 = .ok (.iload 5, 2) := by decide +kernel
theorem dX3_partOfTenths_117 : decode cX3_partOfTenths 117 = .ok (.bipush 10, 2) := by decide +kernel
theorem dX3_partOfTenths_119 : decode cX3_partOfTenths 119 = .ok (.iload 6, 2) := by decide +kernel
theorem dX3_partOfTenths_121 : decode cX3_partOfTenths 121 = .ok (.isub, 1) := by decide +kernel
theorem dX3_partOfTenths_122 : decode cX3_partOfTenths 122 = .ok (.imul, 1) := by decide +kernel
theorem dX3_partOfTenths_123 : decode cX3_partOfTenths 123 = .ok (.ireturn, 1) := by decide +kernel
theorem dX3_partOfTenths_124 : decode cX3_partOfTenths 124 = .ok (.bipush 100, 2) := by decide +kernel
theorem dX3_partOfTenths_126 : decode cX3_partOfTenths 126 = .ok (.bipush 10, 2) := by decide +kernel
theorem dX3_partOfTenths_128 : decode cX3_partOfTenths 128 = .ok (.iload 5, 2) := by decide +kernel
theorem dX3_partOfTenths_130 : decode cX3_partOfTenths 130 = .ok (.imul, 1) := by decide +kernel
theorem dX3_partOfTenths_131 : decode cX3_partOfTenths 131 = .ok (.isub, 1) := by decide +kernel
theorem dX3_partOfTenths_132 : decode cX3_partOfTenths 132 = .ok (.ireturn, 1) := by decide +kernel
theorem dX3_tenthsAt_0 : decode cX3_tenthsAt 0 = .ok (.iload_n 1, 1) := by decide +kernel
theorem dX3_tenthsAt_1 : decode cX3_tenthsAt 1 = .ok (.iload_n 2, 1) := by decide +kernel
theorem dX3_tenthsAt_2 : decode cX3_tenthsAt 2 = .ok (.iload_n 3, 1) := by decide +kernel
theorem dX3_tenthsAt_3 : decode cX3_tenthsAt 3 = .ok (.invokestatic 95, 3) := by decide +kernel
theorem dX3_tenthsAt_6 : decode cX3_tenthsAt 6 = .ok (.istore 4, 2) := by decide +kernel
theorem dX3_tenthsAt_8 : decode cX3_tenthsAt 8 = .ok (.iload 4, 2) := by decide +kernel
theorem dX3_tenthsAt_10 : decode cX3_tenthsAt 10 = .ok (.ifCond .lt 11, 3) := by decide +kernel
theorem dX3_tenthsAt_13 : decode cX3_tenthsAt 13 = .ok (.iload 4, 2) := by decide +kernel
theorem dX3_tenthsAt_15 : decode cX3_tenthsAt 15 = .ok (.sipush 3822, 3) := by decide +kernel
theorem dX3_tenthsAt_18 : decode cX3_tenthsAt 18 = .ok (.if_icmp .lt 5, 3) := by decide +kernel
theorem dX3_tenthsAt_21 : decode cX3_tenthsAt 21 = .ok (.iconst 0, 1) := by decide +kernel
theorem dX3_tenthsAt_22 : decode cX3_tenthsAt 22 = .ok (.ireturn, 1) := by decide +kernel
theorem dX3_tenthsAt_23 : decode cX3_tenthsAt 23 = .ok (.aload_n 0, 1) := by decide +kernel
theorem dX3_tenthsAt_24 : decode cX3_tenthsAt 24 = .ok (.getfield 40, 3) := by decide +kernel
theorem dX3_tenthsAt_27 : decode cX3_tenthsAt 27 = .ok (.iload 4, 2) := by decide +kernel
theorem dX3_tenthsAt_29 : decode cX3_tenthsAt 29 = .ok (.iaload, 1) := by decide +kernel
theorem dX3_tenthsAt_30 : decode cX3_tenthsAt 30 = .ok (.ldc 169, 2) := by decide +kernel
theorem dX3_tenthsAt_32 : decode cX3_tenthsAt 32 = .ok (.iand, 1) := by decide +kernel
theorem dX3_tenthsAt_33 : decode cX3_tenthsAt 33 = .ok (.ifCond .ne 167, 3) := by decide +kernel
theorem dX3_tenthsAt_36 : decode cX3_tenthsAt 36 = .ok (.aload_n 0, 1) := by decide +kernel
theorem dX3_tenthsAt_37 : decode cX3_tenthsAt 37 = .ok (.iload_n 1, 1) := by decide +kernel
theorem dX3_tenthsAt_38 : decode cX3_tenthsAt 38 = .ok (.iload_n 2, 1) := by decide +kernel
theorem dX3_tenthsAt_39 : decode cX3_tenthsAt 39 = .ok (.iload_n 3, 1) := by decide +kernel
theorem dX3_tenthsAt_40 : decode cX3_tenthsAt 40 = .ok (.aload_n 0, 1) := by decide +kernel
theorem dX3_tenthsAt_41 : decode cX3_tenthsAt 41 = .ok (.getfield 14, 3) := by decide +kernel
theorem dX3_tenthsAt_44 : decode cX3_tenthsAt 44 = .ok (.iload_n 1, 1) := by decide +kernel
theorem dX3_tenthsAt_45 : decode cX3_tenthsAt 45 = .ok (.iload_n 2, 1) := by decide +kernel
theorem dX3_tenthsAt_46 : decode cX3_tenthsAt 46 = .ok (.iload_n 3, 1) := by decide +kernel
theorem dX3_tenthsAt_47 : decode cX3_tenthsAt 47 = .ok (.invokevirtual 92, 3) := by decide +kernel
theorem dX3_tenthsAt_50 : decode cX3_tenthsAt 50 = .ok (.invokevirtual 155, 3) := by decide +kernel
theorem dX3_tenthsAt_53 : decode cX3_tenthsAt 53 = .ok (.aload_n 0, 1) := by decide +kernel
theorem dX3_tenthsAt_54 : decode cX3_tenthsAt 54 = .ok (.getfield 32, 3) := by decide +kernel
theorem dX3_tenthsAt_57 : decode cX3_tenthsAt 57 = .ok (.aload_n 0, 1) := by decide +kernel
theorem dX3_tenthsAt_58 : decode cX3_tenthsAt 58 = .ok (.getfield 21, 3) := by decide +kernel
theorem dX3_tenthsAt_61 : decode cX3_tenthsAt 61 = .ok (.bipush 97, 2) := by decide +kernel
theorem dX3_tenthsAt_63 : decode cX3_tenthsAt 63 = .ok (.invokevirtual 159, 3) := by decide +kernel
theorem dX3_tenthsAt_66 : decode cX3_tenthsAt 66 = .ok (.bipush 10, 2) := by decide +kernel
theorem dX3_tenthsAt_68 : decode cX3_tenthsAt 68 = .ok (.invokestatic 170, 3) := by decide +kernel
theorem dX3_tenthsAt_71 : decode cX3_tenthsAt 71 = .ok (.istore 5, 2) := by decide +kernel
theorem dX3_tenthsAt_73 : decode cX3_tenthsAt 73 = .ok (.aload_n 0, 1) := by decide +kernel
theorem dX3_tenthsAt_74 : decode cX3_tenthsAt 74 = .ok (.getfield 32, 3) := by decide +kernel
theorem dX3_tenthsAt_77 : decode cX3_tenthsAt 77 = .ok (.aload_n 0, 1) := by decide +kernel
theorem dX3_tenthsAt_78 : decode cX3_tenthsAt 78 = .ok (.getfield 21, 3) := by decide +kernel
theorem dX3_tenthsAt_81 : decode cX3_tenthsAt 81 = .ok (.bipush 98, 2) := by decide +kernel
theorem dX3_tenthsAt_83 : decode cX3_tenthsAt 83 = .ok (.invokevirtual 159, 3) := by decide +kernel
theorem dX3_tenthsAt_86 : decode cX3_tenthsAt 86 = .ok (.bipush 10, 2) := by decide +kernel
theorem dX3_tenthsAt_88 : decode cX3_tenthsAt 88 = .ok (.iload 5, 2) := by decide +kernel
theorem dX3_tenthsAt_90 : decode cX3_tenthsAt 90 = .ok (.isub, 1) := by decide +kernel
theorem dX3_tenthsAt_91 : decode cX3_tenthsAt 91 = .ok (.invokestatic 170, 3) := by decide +kernel
theorem dX3_tenthsAt_94 : decode cX3_tenthsAt 94 = .ok (.istore 6, 2) := by decide +kernel
theorem dX3_tenthsAt_96 : decode cX3_tenthsAt 96 = .ok (.aload_n 0, 1) := by decide +kernel
theorem dX3_tenthsAt_97 : decode cX3_tenthsAt 97 = .ok (.getfield 32, 3) := by decide +kernel
theorem dX3_tenthsAt_100 : decode cX3_tenthsAt 100 = .ok (.aload_n 0, 1) := by decide +kernel
theorem dX3_tenthsAt_101 : decode cX3_tenthsAt 101 = .ok (.getfield 21, 3) := by decide +kernel
theorem dX3_tenthsAt_104 : decode cX3_tenthsAt 104 = .ok (.bipush 99, 2) := by decide +kernel
theorem dX3_tenthsAt_106 : decode cX3_tenthsAt 106 = .ok (.invokevirtual 159, 3) := by decide +kernel
theorem dX3_tenthsAt_109 : decode cX3_tenthsAt 109 = .ok (.bipush 10, 2) := by decide +kernel
theorem dX3_tenthsAt_111 : decode cX3_tenthsAt 111 = .ok (.iload 5, 2) := by decide +kernel
theorem dX3_tenthsAt_113 : decode cX3_tenthsAt 113 = .ok (.isub, 1) := by decide +kernel
theorem dX3_tenthsAt_114 : decode cX3_tenthsAt 114 = .ok (.iload 6, 2) := by decide +kernel
theorem dX3_tenthsAt_116 : decode cX3_tenthsAt 116 = .ok (.isub, 1) := by decide +kernel
theorem dX3_tenthsAt_117 : decode cX3_tenthsAt 117 = .ok (.invokestatic 170, 3) := by decide +kernel
theorem dX3_tenthsAt_120 : decode cX3_tenthsAt 120 = .ok (.istore 7, 2) := by decide +kernel
theorem dX3_tenthsAt_122 : decode cX3_tenthsAt 122 = .ok (.aload_n 0, 1) := by decide +kernel
theorem dX3_tenthsAt_123 : decode cX3_tenthsAt 123 = .ok (.getfield 32, 3) := by decide +kernel
theorem dX3_tenthsAt_126 : decode cX3_tenthsAt 126 = .ok (.aload_n 0, 1) := by decide +kernel
theorem dX3_tenthsAt_127 : decode cX3_tenthsAt 127 = .ok (.getfield 21, 3) := by decide +kernel
theorem dX3_tenthsAt_130 : decode cX3_tenthsAt 130 = .ok (.bipush 104, 2) := by decide +kernel
theorem dX3_tenthsAt_132 : decode cX3_tenthsAt 132 = .ok (.invokevirtual 159, 3) := by decide +kernel
theorem dX3_tenthsAt_135 : decode cX3_tenthsAt 135 = .ok (.bipush 10, 2) := by decide +kernel
theorem dX3_tenthsAt_137 : decode cX3_tenthsAt 137 = .ok (.invokestatic 170, 3) := by decide +kernel
theorem dX3_tenthsAt_140 : decode cX3_tenthsAt 140 = .ok (.istore 8, 2) := by decide +kernel
theorem dX3_tenthsAt_142 : decode cX3_tenthsAt 142 = .ok (.aload_n 0, 1) := by decide +kernel
theorem dX3_tenthsAt_143 : decode cX3_tenthsAt 143 = .ok (.getfield 32, 3) := by decide +kernel
theorem dX3_tenthsAt_146 : decode cX3_tenthsAt 146 = .ok (.aload_n 0, 1) := by decide +kernel
theorem dX3_tenthsAt_147 : decode cX3_tenthsAt 147 = .ok (.getfield 21, 3) := by decide +kernel
theorem dX3_tenthsAt_150 : decode cX3_tenthsAt 150 = .ok (.bipush 107, 2) := by decide +kernel
theorem dX3_tenthsAt_152 : decode cX3_tenthsAt 152 = .ok (.invokevirtual 159, 3) := by decide +kernel
theorem dX3_tenthsAt_155 : decode cX3_tenthsAt 155 = .ok (.bipush 10, 2) := by decide +kernel
theorem dX3_tenthsAt_157 : decode cX3_tenthsAt 157 = .ok (.invokestatic 170, 3) := by decide +kernel
theorem dX3_tenthsAt_160 : decode cX3_tenthsAt 160 = .ok (.istore 9, 2) := by decide +kernel
theorem dX3_tenthsAt_162 : decode cX3_tenthsAt 162 = .ok (.aload_n 0, 1) := by decide +kernel
theorem dX3_tenthsAt_163 : decode cX3_tenthsAt 163 = .ok (.getfield 40, 3) := by decide +kernel
theorem dX3_tenthsAt_166 : decode cX3_tenthsAt 166 = .ok (.iload 4, 2) := by decide +kernel
theorem dX3_tenthsAt_168 : decode cX3_tenthsAt 168 = .ok (.dup2, 1) := by decide +kernel
theorem dX3_tenthsAt_169 : decode cX3_tenthsAt 169 = .ok (.iaload, 1) := by decide +kernel
theorem dX3_tenthsAt_170 : decode cX3_tenthsAt 170 = .ok (.iload 5, 2) := by decide +kernel
theorem dX3_tenthsAt_172 : decode cX3_tenthsAt 172 = .ok (.iload 6, 2) := by decide +kernel
theorem dX3_tenthsAt_174 : decode cX3_tenthsAt 174 = .ok (.iconst 4, 1) := by decide +kernel
theorem dX3_tenthsAt_175 : decode cX3_tenthsAt 175 = .ok (.ishl, 1) := by decide +kernel
theorem dX3_tenthsAt_176 : decode cX3_tenthsAt 176 = .ok (.ior, 1) := by decide +kernel
theorem dX3_tenthsAt_177 : decode cX3_tenthsAt 177 = .ok (.iload 7, 2) := by decide +kernel
theorem dX3_tenthsAt_179 : decode cX3_tenthsAt 179 = .ok (.bipush 8, 2) := by decide +kernel
theorem dX3_tenthsAt_181 : decode cX3_tenthsAt 181 = .ok (.ishl, 1) := by decide +kernel
theorem dX3_tenthsAt_182 : decode cX3_tenthsAt 182 = .ok (.ior, 1) := by decide +kernel
theorem dX3_tenthsAt_183 : decode cX3_tenthsAt 183 = .ok (.iload 8, 2) := by decide +kernel
theorem dX3_tenthsAt_185 : decode cX3_tenthsAt 185 = .ok (.bipush 12, 2) := by decide +kernel
theorem dX3_tenthsAt_187 : decode cX3_tenthsAt 187 = .ok (.ishl, 1) := by decide +kernel
theorem dX3_tenthsAt_188 : decode cX3_tenthsAt 188 = .ok (.ior, 1) := by decide +kernel
theorem dX3_tenthsAt_189 : decode cX3_tenthsAt 189 = .ok (.iload 9, 2) := by decide +kernel
theorem dX3_tenthsAt_191 : decode cX3_tenthsAt 191 = .ok (.bipush 16, 2) := by decide +kernel
theorem dX3_tenthsAt_193 : decode cX3_tenthsAt 193 = .ok (.ishl, 1) := by decide +kernel
theorem dX3_tenthsAt_194 : decode cX3_tenthsAt 194 = .ok (.ior, 1) := by decide +kernel
theorem dX3_tenthsAt_195 : decode cX3_tenthsAt 195 = .ok (.ldc 169, 2) := by decide +kernel
theorem dX3_tenthsAt_197 : decode cX3_tenthsAt 197 = .ok (.ior, 1) := by decide +kernel
theorem dX3_tenthsAt_198 : decode cX3_tenthsAt 198 = .ok (.ior, 1) := by decide +kernel
theorem dX3_tenthsAt_199 : decode cX3_tenthsAt 199 = .ok (.iastore, 1) := by decide +kernel
theorem dX3_tenthsAt_200 : decode cX3_tenthsAt 200 = .ok (.aload_n 0, 1) := by decide +kernel
theorem dX3_tenthsAt_201 : decode cX3_tenthsAt 201 = .ok (.getfield 40, 3) := by decide +kernel
theorem dX3_tenthsAt_204 : decode cX3_tenthsAt 204 = .ok (.iload 4, 2) := by decide +kernel
theorem dX3_tenthsAt_206 : decode cX3_tenthsAt 206 = .ok (.iaload, 1) := by decide +kernel
theorem dX3_tenthsAt_207 : decode cX3_tenthsAt 207 = .ok (.ireturn, 1) := by decide +kernel
theorem dX3_bounded_0 : decode cX3_bounded 0 = .ok (.iconst 0, 1) := by decide +kernel
theorem dX3_bounded_1 : decode cX3_bounded 1 = .ok (.iload_n 1, 1) := by decide +kernel
theorem dX3_bounded_2 : decode cX3_bounded 2 = .ok (.iload_n 0, 1) := by decide +kernel
theorem dX3_bounded_3 : decode cX3_bounded 3 = .ok (.invokestatic 173, 3) := by decide +kernel
theorem dX3_bounded_6 : decode cX3_bounded 6 = .ok (.invokestatic 176, 3) := by decide +kernel
theorem dX3_bounded_9 : decode cX3_bounded 9 = .ok (.ireturn, 1) := by decide +kernel
theorem dX3_tellLetters_0 : decode cX3_tellLetters 0 = .ok (.iload 4, 2) := by decide +kernel
theorem dX3_tellLetters_2 : decode cX3_tellLetters 2 = .ok (.ifCond .ne 7, 3) := by decide +kernel
theorem dX3_tellLetters_5 : decode cX3_tellLetters 5 = .ok (.iload_n 1, 1) := by decide +kernel
theorem dX3_tellLetters_6 : decode cX3_tellLetters 6 = .ok (.goto 4, 3) := by decide +kernel
theorem dX3_tellLetters_9 : decode cX3_tellLetters 9 = .ok (.iload_n 2, 1) := by decide +kernel
theorem dX3_tellLetters_10 : decode cX3_tellLetters 10 = .ok (.istore 5, 2) := by decide +kernel
theorem dX3_tellLetters_12 : decode cX3_tellLetters 12 = .ok (.iload 4, 2) := by decide +kernel
theorem dX3_tellLetters_14 : decode cX3_tellLetters 14 = .ok (.ifCond .ne 7, 3) := by decide +kernel
theorem dX3_tellLetters_17 : decode cX3_tellLetters 17 = .ok (.iload_n 2, 1) := by decide +kernel
theorem dX3_tellLetters_18 : decode cX3_tellLetters 18 = .ok (.goto 4, 3) := by decide +kernel
theorem dX3_tellLetters_21 : decode cX3_tellLetters 21 = .ok (.iload_n 1, 1) := by decide +kernel
theorem dX3_tellLetters_22 : decode cX3_tellLetters 22 = .ok (.istore 6, 2) := by decide +kernel
theorem dX3_tellLetters_24 : decode cX3_tellLetters 24 = .ok (.aload_n 0, 1) := by decide +kernel
theorem dX3_tellLetters_25 : decode cX3_tellLetters 25 = .ok (.getfield 32, 3) := by decide +kernel
theorem dX3_tellLetters_28 : decode cX3_tellLetters 28 = .ok (.getfield 178, 3) := by decide +kernel
theorem dX3_tellLetters_31 : decode cX3_tellLetters 31 = .ok (.astore 7, 2) := by decide +kernel
theorem dX3_tellLetters_33 : decode cX3_tellLetters 33 = .ok (.aload 7, 2) := by decide +kernel
theorem dX3_tellLetters_35 : decode cX3_tellLetters 35 = .ok (.iconst 0, 1) := by decide +kernel
theorem dX3_tellLetters_36 : decode cX3_tellLetters 36 = .ok (.iload 4, 2) := by decide +kernel
theorem dX3_tellLetters_38 : decode cX3_tellLetters 38 = .ok (.iastore, 1) := by decide +kernel
theorem dX3_tellLetters_39 : decode cX3_tellLetters 39 = .ok (.aload 7, 2) := by decide +kernel
theorem dX3_tellLetters_41 : decode cX3_tellLetters 41 = .ok (.iconst 1, 1) := by decide +kernel
theorem dX3_tellLetters_42 : decode cX3_tellLetters 42 = .ok (.aload_n 0, 1) := by decide +kernel
theorem dX3_tellLetters_43 : decode cX3_tellLetters 43 = .ok (.getfield 14, 3) := by decide +kernel
theorem dX3_tellLetters_46 : decode cX3_tellLetters 46 = .ok (.iload 5, 2) := by decide +kernel
theorem dX3_tellLetters_48 : decode cX3_tellLetters 48 = .ok (.invokevirtual 181, 3) := by decide +kernel
theorem dX3_tellLetters_51 : decode cX3_tellLetters 51 = .ok (.iastore, 1) := by decide +kernel
theorem dX3_tellLetters_52 : decode cX3_tellLetters 52 = .ok (.aload 7, 2) := by decide +kernel
theorem dX3_tellLetters_54 : decode cX3_tellLetters 54 = .ok (.iconst 2, 1) := by decide +kernel
theorem dX3_tellLetters_55 : decode cX3_tellLetters 55 = .ok (.aload_n 0, 1) := by decide +kernel
theorem dX3_tellLetters_56 : decode cX3_tellLetters 56 = .ok (.getfield 14, 3) := by decide +kernel
theorem dX3_tellLetters_59 : decode cX3_tellLetters 59 = .ok (.iload 6, 2) := by decide +kernel
theorem dX3_tellLetters_61 : decode cX3_tellLetters 61 = .ok (.invokevirtual 181, 3) := by decide +kernel
theorem dX3_tellLetters_64 : decode cX3_tellLetters 64 = .ok (.iastore, 1) := by decide +kernel
theorem dX3_tellLetters_65 : decode cX3_tellLetters 65 = .ok (.aload 7, 2) := by decide +kernel
theorem dX3_tellLetters_67 : decode cX3_tellLetters 67 = .ok (.iconst 3, 1) := by decide +kernel
theorem dX3_tellLetters_68 : decode cX3_tellLetters 68 = .ok (.aload_n 0, 1) := by decide +kernel
theorem dX3_tellLetters_69 : decode cX3_tellLetters 69 = .ok (.getfield 14, 3) := by decide +kernel
theorem dX3_tellLetters_72 : decode cX3_tellLetters 72 = .ok (.iload 5, 2) := by decide +kernel
theorem dX3_tellLetters_74 : decode cX3_tellLetters 74 = .ok (.invokevirtual 184, 3) := by decide +kernel
theorem dX3_tellLetters_77 : decode cX3_tellLetters 77 = .ok (.iastore, 1) := by decide +kernel
theorem dX3_tellLetters_78 : decode cX3_tellLetters 78 = .ok (.aload 7, 2) := by decide +kernel
theorem dX3_tellLetters_80 : decode cX3_tellLetters 80 = .ok (.iconst 4, 1) := by decide +kernel
theorem dX3_tellLetters_81 : decode cX3_tellLetters 81 = .ok (.aload_n 0, 1) := by decide +kernel
theorem dX3_tellLetters_82 : decode cX3_tellLetters 82 = .ok (.getfield 14, 3) := by decide +kernel
theorem dX3_tellLetters_85 : decode cX3_tellLetters 85 = .ok (.iload 6, 2) := by decide +kernel
theorem dX3_tellLetters_87 : decode cX3_tellLetters 87 = .ok (.invokevirtual 184, 3) := by decide +kernel
theorem dX3_tellLetters_90 : decode cX3_tellLetters 90 = .ok (.iastore, 1) := by decide +kernel
theorem dX3_tellLetters_91 : decode cX3_tellLetters 91 = .ok (.aload 7, 2) := by decide +kernel
theorem dX3_tellLetters_93 : decode cX3_tellLetters 93 = .ok (.iconst 5, 1) := by decide +kernel
theorem dX3_tellLetters_94 : decode cX3_tellLetters 94 = .ok (.aload_n 0, 1) := by decide +kernel
theorem dX3_tellLetters_95 : decode cX3_tellLetters 95 = .ok (.getfield 36, 3) := by decide +kernel
theorem dX3_tellLetters_98 : decode cX3_tellLetters 98 = .ok (.iastore, 1) := by decide +kernel
theorem dX3_tellLetters_99 : decode cX3_tellLetters 99 = .ok (.aload 7, 2) := by decide +kernel
theorem dX3_tellLetters_101 : decode cX3_tellLetters 101 = .ok (.bipush 6, 2) := by decide +kernel
theorem dX3_tellLetters_103 : decode cX3_tellLetters 103 = .ok (.iload 4, 2) := by decide +kernel
theorem dX3_tellLetters_105 : decode cX3_tellLetters 105 = .ok (.iload_n 3, 1) := by decide +kernel
theorem dX3_tellLetters_106 : decode cX3_tellLetters 106 = .ok (.if_icmp .ne 7, 3) := by decide +kernel
theorem dX3_tellLetters_109 : decode cX3_tellLetters 109 = .ok (.iconst 1, 1) := by decide +kernel
theorem dX3_tellLetters_110 : decode cX3_tellLetters 110 = .ok (.goto 4, 3) := by decide +kernel
theorem dX3_tellLetters_113 : decode cX3_tellLetters 113 = .ok (.iconst 0, 1) := by decide +kernel
theorem dX3_tellLetters_114 : decode cX3_tellLetters 114 = .ok (.iastore, 1) := by decide +kernel
theorem dX3_tellLetters_115 : decode cX3_tellLetters 115 = .ok (.aload 7, 2) := by decide +kernel
theorem dX3_tellLetters_117 : decode cX3_tellLetters 117 = .ok (.bipush 7, 2) := by decide +kernel
theorem dX3_tellLetters_119 : decode cX3_tellLetters 119 = .ok (.aload_n 0, 1) := by decide +kernel
theorem dX3_tellLetters_120 : decode cX3_tellLetters 120 = .ok (.getfield 14, 3) := by decide +kernel
theorem dX3_tellLetters_123 : decode cX3_tellLetters 123 = .ok (.iload 5, 2) := by decide +kernel
theorem dX3_tellLetters_125 : decode cX3_tellLetters 125 = .ok (.invokevirtual 187, 3) := by decide +kernel
theorem dX3_tellLetters_128 : decode cX3_tellLetters 128 = .ok (.iastore, 1) := by decide +kernel
theorem dX3_tellLetters_129 : decode cX3_tellLetters 129 = .ok (.aload 7, 2) := by decide +kernel
theorem dX3_tellLetters_131 : decode cX3_tellLetters 131 = .ok (.bipush 8, 2) := by decide +kernel
theorem dX3_tellLetters_133 : decode cX3_tellLetters 133 = .ok (.aload_n 0, 1) := by decide +kernel
theorem dX3_tellLetters_134 : decode cX3_tellLetters 134 = .ok (.getfield 14, 3) := by decide +kernel
theorem dX3_tellLetters_137 : decode cX3_tellLetters 137 = .ok (.iload 6, 2) := by decide +kernel
theorem dX3_tellLetters_139 : decode cX3_tellLetters 139 = .ok (.invokevirtual 187, 3) := by decide +kernel
theorem dX3_tellLetters_142 : decode cX3_tellLetters 142 = .ok (.iastore, 1) := by decide +kernel
theorem dX3_tellLetters_143 : decode cX3_tellLetters 143 = .ok (.return_, 1) := by decide +kernel
theorem dX4_init_0 : decode cX4_init 0 = .ok (.aload_n 0, 1) := by decide +kernel
theorem dX4_init_1 : decode cX4_init 1 = .ok (.invokespecial 3, 3) := by decide +kernel
theorem dX4_init_4 : decode cX4_init 4 = .ok (.aload_n 0, 1) := by decide +kernel
theorem dX4_init_5 : decode cX4_init 5 = .ok (.bipush 12, 2) := by decide +kernel
theorem dX4_init_7 : decode cX4_init 7 = .ok (.newarray .int, 2) := by decide +kernel
theorem dX4_init_9 : decode cX4_init 9 = .ok (.putfield 11, 3) := by decide +kernel
theorem dX4_init_12 : decode cX4_init 12 = .ok (.aload_n 0, 1) := by decide +kernel
theorem dX4_init_13 : decode cX4_init 13 = .ok (.bipush 12, 2) := by decide +kernel
theorem dX4_init_15 : decode cX4_init 15 = .ok (.newarray .int, 2) := by decide +kernel
theorem dX4_init_17 : decode cX4_init 17 = .ok (.putfield 15, 3) := by decide +kernel
theorem dX4_init_20 : decode cX4_init 20 = .ok (.aload_n 0, 1) := by decide +kernel
theorem dX4_init_21 : decode cX4_init 21 = .ok (.bipush 12, 2) := by decide +kernel
theorem dX4_init_23 : decode cX4_init 23 = .ok (.newarray .int, 2) := by decide +kernel
theorem dX4_init_25 : decode cX4_init 25 = .ok (.putfield 18, 3) := by decide +kernel
theorem dX4_init_28 : decode cX4_init 28 = .ok (.aload_n 0, 1) := by decide +kernel
theorem dX4_init_29 : decode cX4_init 29 = .ok (.bipush 50, 2) := by decide +kernel
theorem dX4_init_31 : decode cX4_init 31 = .ok (.putfield 21, 3) := by decide +kernel
theorem dX4_init_34 : decode cX4_init 34 = .ok (.aload_n 0, 1) := by decide +kernel
theorem dX4_init_35 : decode cX4_init 35 = .ok (.bipush 50, 2) := by decide +kernel
theorem dX4_init_37 : decode cX4_init 37 = .ok (.putfield 25, 3) := by decide +kernel
theorem dX4_init_40 : decode cX4_init 40 = .ok (.return_, 1) := by decide +kernel
theorem dX4_hasRoom_0 : decode cX4_hasRoom 0 = .ok (.aload_n 0, 1) := by decide +kernel
theorem dX4_hasRoom_1 : decode cX4_hasRoom 1 = .ok (.getfield 28, 3) := by decide +kernel
theorem dX4_hasRoom_4 : decode cX4_hasRoom 4 = .ok (.bipush 12, 2) := by decide +kernel
theorem dX4_hasRoom_6 : decode cX4_hasRoom 6 = .ok (.if_icmp .ge 7, 3) := by decide +kernel
theorem dX4_hasRoom_9 : decode cX4_hasRoom 9 = .ok (.iconst 1, 1) := by decide +kernel
theorem dX4_hasRoom_10 : decode cX4_hasRoom 10 = .ok (.goto 4, 3) := by decide +kernel
theorem dX4_hasRoom_13 : decode cX4_hasRoom 13 = .ok (.iconst 0, 1) := by decide +kernel
theorem dX4_hasRoom_14 : decode cX4_hasRoom 14 = .ok (.ireturn, 1) := by decide +kernel
theorem dX4_add_0 : decode cX4_add 0 = .ok (.aload_n 0, 1) := by decide +kernel
theorem dX4_add_1 : decode cX4_add 1 = .ok (.getfield 28, 3) := by decide +kernel
theorem dX4_add_4 : decode cX4_add 4 = .ok (.ifCond .lt 12, 3) := by decide +kernel
theorem dX4_add_7 : decode cX4_add 7 = .ok (.aload_n 0, 1) := by decide +kernel
theorem dX4_add_8 : decode cX4_add 8 = .ok (.getfield 28, 3) := by decide +kernel
theorem dX4_add_11 : decode cX4_add 11 = .ok (.bipush 12, 2) := by decide +kernel
theorem dX4_add_13 : decode cX4_add 13 = .ok (.if_icmp .lt 5, 3) := by decide +kernel
theorem dX4_add_16 : decode cX4_add 16 = .ok (.iconst (-1), 1) := by decide +kernel
theorem dX4_add_17 : decode cX4_add 17 = .ok (.ireturn, 1) := by decide +kernel
theorem dX4_add_18 : decode cX4_add 18 = .ok (.aload_n 0, 1) := by decide +kernel
theorem dX4_add_19 : decode cX4_add 19 = .ok (.getfield 11, 3) := by decide +kernel
theorem dX4_add_22 : decode cX4_add 22 = .ok (.aload_n 0, 1) := by decide +kernel
theorem dX4_add_23 : decode cX4_add 23 = .ok (.getfield 28, 3) := by decide +kernel
theorem dX4_add_26 : decode cX4_add 26 = .ok (.iload_n 1, 1) := by decide +kernel
theorem dX4_add_27 : decode cX4_add 27 = .ok (.iastore, 1) := by decide +kernel
theorem dX4_add_28 : decode cX4_add 28 = .ok (.aload_n 0, 1) := by decide +kernel
theorem dX4_add_29 : decode cX4_add 29 = .ok (.getfield 15, 3) := by decide +kernel
theorem dX4_add_32 : decode cX4_add 32 = .ok (.aload_n 0, 1) := by decide +kernel
theorem dX4_add_33 : decode cX4_add 33 = .ok (.getfield 28, 3) := by decide +kernel
theorem dX4_add_36 : decode cX4_add 36 = .ok (.iload_n 2, 1) := by decide +kernel
theorem dX4_add_37 : decode cX4_add 37 = .ok (.iastore, 1) := by decide +kernel
theorem dX4_add_38 : decode cX4_add 38 = .ok (.aload_n 0, 1) := by decide +kernel
theorem dX4_add_39 : decode cX4_add 39 = .ok (.getfield 18, 3) := by decide +kernel
theorem dX4_add_42 : decode cX4_add 42 = .ok (.aload_n 0, 1) := by decide +kernel
theorem dX4_add_43 : decode cX4_add 43 = .ok (.getfield 28, 3) := by decide +kernel
theorem dX4_add_46 : decode cX4_add 46 = .ok (.iload_n 3, 1) := by decide +kernel
theorem dX4_add_47 : decode cX4_add 47 = .ok (.iastore, 1) := by decide +kernel
theorem dX4_add_48 : decode cX4_add 48 = .ok (.aload_n 0, 1) := by decide +kernel
theorem dX4_add_49 : decode cX4_add 49 = .ok (.dup, 1) := by decide +kernel
theorem dX4_add_50 : decode cX4_add 50 = .ok (.getfield 28, 3) := by decide +kernel
theorem dX4_add_53 : decode cX4_add 53 = .ok (.iconst 1, 1) := by decide +kernel
theorem dX4_add_54 : decode cX4_add 54 = .ok (.iadd, 1) := by decide +kernel
theorem dX4_add_55 : decode cX4_add 55 = .ok (.putfield 28, 3) := by decide +kernel
theorem dX4_add_58 : decode cX4_add 58 = .ok (.aload_n 0, 1) := by decide +kernel
theorem dX4_add_59 : decode cX4_add 59 = .ok (.getfield 28, 3) := by decide +kernel
theorem dX4_add_62 : decode cX4_add 62 = .ok (.iconst 1, 1) := by decide +kernel
theorem dX4_add_63 : decode cX4_add 63 = .ok (.isub, 1) := by decide +kernel
theorem dX4_add_64 : decode cX4_add 64 = .ok (.ireturn, 1) := by decide +kernel
theorem dX4_remove_0 : decode cX4_remove 0 = .ok (.iconst 0, 1) := by decide +kernel
theorem dX4_remove_1 : decode cX4_remove 1 = .ok (.iload_n 1, 1) := by decide +kernel
theorem dX4_remove_2 : decode cX4_remove 2 = .ok (.invokestatic 31, 3) := by decide +kernel
theorem dX4_remove_5 : decode cX4_remove 5 = .ok (.istore_n 2, 1) := by decide +kernel
theorem dX4_remove_6 : decode cX4_remove 6 = .ok (.iload_n 2, 1) := by decide +kernel
theorem dX4_remove_7 : decode cX4_remove 7 = .ok (.iconst 1, 1) := by decide +kernel
theorem dX4_remove_8 : decode cX4_remove 8 = .ok (.iadd, 1) := by decide +kernel
theorem dX4_remove_9 : decode cX4_remove 9 = .ok (.aload_n 0, 1) := by decide +kernel
theorem dX4_remove_10 : decode cX4_remove 10 = .ok (.getfield 28, 3) := by decide +kernel
theorem dX4_remove_13 : decode cX4_remove 13 = .ok (.if_icmp .ge 59, 3) := by decide +kernel
theorem dX4_remove_16 : decode cX4_remove 16 = .ok (.iload_n 2, 1) := by decide +kernel
theorem dX4_remove_17 : decode cX4_remove 17 = .ok (.iconst 1, 1) := by decide +kernel
theorem dX4_remove_18 : decode cX4_remove 18 = .ok (.iadd, 1) := by decide +kernel
theorem dX4_remove_19 : decode cX4_remove 19 = .ok (.bipush 12, 2) := by decide +kernel
theorem dX4_remove_21 : decode cX4_remove 21 = .ok (.if_icmp .ge 51, 3) := by decide +kernel
theorem dX4_remove_24 : decode cX4_remove 24 = .ok (.aload_n 0, 1) := by decide +kernel
theorem dX4_remove_25 : decode cX4_remove 25 = .ok (.getfield 11, 3) := by decide +kernel
theorem dX4_remove_28 : decode cX4_remove 28 = .ok (.iload_n 2, 1) := by decide +kernel
theorem dX4_remove_29 : decode cX4_remove 29 = .ok (.aload_n 0, 1) := by decide +kernel
theorem dX4_remove_30 : decode cX4_remove 30 = .ok (.getfield 11, 3) := by decide +kernel
theorem dX4_remove_33 : decode cX4_remove 33 = .ok (.iload_n 2, 1) := by decide +kernel
theorem dX4_remove_34 : decode cX4_remove 34 = .ok (.iconst 1, 1) := by decide +kernel
theorem dX4_remove_35 : decode cX4_remove 35 = .ok (.iadd, 1) := by decide +kernel
theorem dX4_remove_36 : decode cX4_remove 36 = .ok (.iaload, 1) := by decide +kernel
theorem dX4_remove_37 : decode cX4_remove 37 = .ok (.iastore, 1) := by decide +kernel
theorem dX4_remove_38 : decode cX4_remove 38 = .ok (.aload_n 0, 1) := by decide +kernel
theorem dX4_remove_39 : decode cX4_remove 39 = .ok (.getfield 15, 3) := by decide +kernel
theorem dX4_remove_42 : decode cX4_remove 42 = .ok (.iload_n 2, 1) := by decide +kernel
theorem dX4_remove_43 : decode cX4_remove 43 = .ok (.aload_n 0, 1) := by decide +kernel
theorem dX4_remove_44 : decode cX4_remove 44 = .ok (.getfield 15, 3) := by decide +kernel
theorem dX4_remove_47 : decode cX4_remove 47 = .ok (.iload_n 2, 1) := by decide +kernel
theorem dX4_remove_48 : decode cX4_remove 48 = .ok (.iconst 1, 1) := by decide +kernel
theorem dX4_remove_49 : decode cX4_remove 49 = .ok (.iadd, 1) := by decide +kernel
theorem dX4_remove_50 : decode cX4_remove 50 = .ok (.iaload, 1) := by decide +kernel
theorem dX4_remove_51 : decode cX4_remove 51 = .ok (.iastore, 1) := by decide +kernel
theorem dX4_remove_52 : decode cX4_remove 52 = .ok (.aload_n 0, 1) := by decide +kernel
theorem dX4_remove_53 : decode cX4_remove 53 = .ok (.getfield 18, 3) := by decide +kernel
theorem dX4_remove_56 : decode cX4_remove 56 = .ok (.iload_n 2, 1) := by decide +kernel
theorem dX4_remove_57 : decode cX4_remove 57 = .ok (.aload_n 0, 1) := by decide +kernel
theorem dX4_remove_58 : decode cX4_remove 58 = .ok (.getfield 18, 3) := by decide +kernel
theorem dX4_remove_61 : decode cX4_remove 61 = .ok (.iload_n 2, 1) := by decide +kernel
theorem dX4_remove_62 : decode cX4_remove 62 = .ok (.iconst 1, 1) := by decide +kernel
theorem dX4_remove_63 : decode cX4_remove 63 = .ok (.iadd, 1) := by decide +kernel
theorem dX4_remove_64 : decode cX4_remove 64 = .ok (.iaload, 1) := by decide +kernel
theorem dX4_remove_65 : decode cX4_remove 65 = .ok (.iastore, 1) := by decide +kernel
theorem dX4_remove_66 : decode cX4_remove 66 = .ok (.iinc 2 1, 3) := by decide +kernel
theorem dX4_remove_69 : decode cX4_remove 69 = .ok (.goto (-63), 3) := by decide +kernel
theorem dX4_remove_72 : decode cX4_remove 72 = .ok (.aload_n 0, 1) := by decide +kernel
theorem dX4_remove_73 : decode cX4_remove 73 = .ok (.dup, 1) := by decide +kernel
theorem dX4_remove_74 : decode cX4_remove 74 = .ok (.getfield 28, 3) := by decide +kernel
theorem dX4_remove_77 : decode cX4_remove 77 = .ok (.iconst 1, 1) := by decide +kernel
theorem dX4_remove_78 : decode cX4_remove 78 = .ok (.isub, 1) := by decide +kernel
theorem dX4_remove_79 : decode cX4_remove 79 = .ok (.putfield 28, 3) := by decide +kernel
theorem dX4_remove_82 : decode cX4_remove 82 = .ok (.return_, 1) := by decide +kernel
theorem dX4_copyFrom_0 : decode cX4_copyFrom 0 = .ok (.aload_n 1, 1) := by decide +kernel
theorem dX4_copyFrom_1 : decode cX4_copyFrom 1 = .ok (.getfield 11, 3) := by decide +kernel
theorem dX4_copyFrom_4 : decode cX4_copyFrom 4 = .ok (.iconst 0, 1) := by decide +kernel
theorem dX4_copyFrom_5 : decode cX4_copyFrom 5 = .ok (.aload_n 0, 1) := by decide +kernel
theorem dX4_copyFrom_6 : decode cX4_copyFrom 6 = .ok (.getfield 11, 3) := by decide +kernel
theorem dX4_copyFrom_9 : decode cX4_copyFrom 9 = .ok (.iconst 0, 1) := by decide +kernel
theorem dX4_copyFrom_10 : decode cX4_copyFrom 10 = .ok (.bipush 12, 2) := by decide +kernel
theorem dX4_copyFrom_12 : decode cX4_copyFrom 12 = .ok (.invokestatic 37, 3) := by decide +kernel
theorem dX4_copyFrom_15 : decode cX4_copyFrom 15 = .ok (.aload_n 1, 1) := by decide +kernel
theorem dX4_copyFrom_16 : decode cX4_copyFrom 16 = .ok (.getfield 15, 3) := by decide +kernel
theorem dX4_copyFrom_19 : decode cX4_copyFrom 19 = .ok (.iconst 0, 1) := by decide +kernel
theorem dX4_copyFrom_20 : decode cX4_copyFrom 20 = .ok (.aload_n 0, 1) := by decide +kernel
theorem dX4_copyFrom_21 : decode cX4_copyFrom 21 = .ok (.getfield 15, 3) := by decide +kernel
theorem dX4_copyFrom_24 : decode cX4_copyFrom 24 = .ok (.iconst 0, 1) := by decide +kernel
theorem dX4_copyFrom_25 : decode cX4_copyFrom 25 = .ok (.bipush 12, 2) := by decide +kernel
theorem dX4_copyFrom_27 : decode cX4_copyFrom 27 = .ok (.invokestatic 37, 3) := by decide +kernel
theorem dX4_copyFrom_30 : decode cX4_copyFrom 30 = .ok (.aload_n 1, 1) := by decide +kernel
theorem dX4_copyFrom_31 : decode cX4_copyFrom 31 = .ok (.getfield 18, 3) := by decide +kernel
theorem dX4_copyFrom_34 : decode cX4_copyFrom 34 = .ok (.iconst 0, 1) := by decide +kernel
theorem dX4_copyFrom_35 : decode cX4_copyFrom 35 = .ok (.aload_n 0, 1) := by decide +kernel
theorem dX4_copyFrom_36 : decode cX4_copyFrom 36 = .ok (.getfield 18, 3) := by decide +kernel
theorem dX4_copyFrom_39 : decode cX4_copyFrom 39 = .ok (.iconst 0, 1) := by decide +kernel
theorem dX4_copyFrom_40 : decode cX4_copyFrom 40 = .ok (.bipush 12, 2) := by decide +kernel
theorem dX4_copyFrom_42 : decode cX4_copyFrom 42 = .ok (.invokestatic 37, 3) := by decide +kernel
theorem dX4_copyFrom_45 : decode cX4_copyFrom 45 = .ok (.aload_n 0, 1) := by decide +kernel
theorem dX4_copyFrom_46 : decode cX4_copyFrom 46 = .ok (.aload_n 1, 1) := by decide +kernel
theorem dX4_copyFrom_47 : decode cX4_copyFrom 47 = .ok (.getfield 28, 3) := by decide +kernel
theorem dX4_copyFrom_50 : decode cX4_copyFrom 50 = .ok (.putfield 28, 3) := by decide +kernel
theorem dX4_copyFrom_53 : decode cX4_copyFrom 53 = .ok (.aload_n 0, 1) := by decide +kernel
theorem dX4_copyFrom_54 : decode cX4_copyFrom 54 = .ok (.aload_n 1, 1) := by decide +kernel
theorem dX4_copyFrom_55 : decode cX4_copyFrom 55 = .ok (.getfield 21, 3) := by decide +kernel
theorem dX4_copyFrom_58 : decode cX4_copyFrom 58 = .ok (.putfield 21, 3) := by decide +kernel
theorem dX4_copyFrom_61 : decode cX4_copyFrom 61 = .ok (.aload_n 0, 1) := by decide +kernel
theorem dX4_copyFrom_62 : decode cX4_copyFrom 62 = .ok (.aload_n 1, 1) := by decide +kernel
theorem dX4_copyFrom_63 : decode cX4_copyFrom 63 = .ok (.getfield 25, 3) := by decide +kernel
theorem dX4_copyFrom_66 : decode cX4_copyFrom 66 = .ok (.putfield 25, 3) := by decide +kernel
theorem dX4_copyFrom_69 : decode cX4_copyFrom 69 = .ok (.return_, 1) := by decide +kernel
theorem dX4_sideOf_0 : decode cX4_sideOf 0 = .ok (.aload_n 0, 1) := by decide +kernel
theorem dX4_sideOf_1 : decode cX4_sideOf 1 = .ok (.getfield 11, 3) := by decide +kernel
theorem dX4_sideOf_4 : decode cX4_sideOf 4 = .ok (.iload_n 1, 1) := by decide +kernel
theorem dX4_sideOf_5 : decode cX4_sideOf 5 = .ok (.invokestatic 43, 3) := by decide +kernel
theorem dX4_sideOf_8 : decode cX4_sideOf 8 = .ok (.ireturn, 1) := by decide +kernel
theorem dX4_placeOf_0 : decode cX4_placeOf 0 = .ok (.bipush 100, 2) := by decide +kernel
theorem dX4_placeOf_2 : decode cX4_placeOf 2 = .ok (.aload_n 0, 1) := by decide +kernel
theorem dX4_placeOf_3 : decode cX4_placeOf 3 = .ok (.getfield 18, 3) := by decide +kernel
theorem dX4_placeOf_6 : decode cX4_placeOf 6 = .ok (.iload_n 1, 1) := by decide +kernel
theorem dX4_placeOf_7 : decode cX4_placeOf 7 = .ok (.invokestatic 43, 3) := by decide +kernel
theorem dX4_placeOf_10 : decode cX4_placeOf 10 = .ok (.imul, 1) := by decide +kernel
theorem dX4_placeOf_11 : decode cX4_placeOf 11 = .ok (.aload_n 0, 1) := by decide +kernel
theorem dX4_placeOf_12 : decode cX4_placeOf 12 = .ok (.getfield 15, 3) := by decide +kernel
theorem dX4_placeOf_15 : decode cX4_placeOf 15 = .ok (.iload_n 1, 1) := by decide +kernel
theorem dX4_placeOf_16 : decode cX4_placeOf 16 = .ok (.invokestatic 43, 3) := by decide +kernel
theorem dX4_placeOf_19 : decode cX4_placeOf 19 = .ok (.iadd, 1) := by decide +kernel
theorem dX4_placeOf_20 : decode cX4_placeOf 20 = .ok (.ireturn, 1) := by decide +kernel
theorem dX4_squareOf_0 : decode cX4_squareOf 0 = .ok (.aload_n 0, 1) := by decide +kernel
theorem dX4_squareOf_1 : decode cX4_squareOf 1 = .ok (.getfield 15, 3) := by decide +kernel
theorem dX4_squareOf_4 : decode cX4_squareOf 4 = .ok (.iload_n 1, 1) := by decide +kernel
theorem dX4_squareOf_5 : decode cX4_squareOf 5 = .ok (.invokestatic 43, 3) := by decide +kernel
theorem dX4_squareOf_8 : decode cX4_squareOf 8 = .ok (.aload_n 0, 1) := by decide +kernel
theorem dX4_squareOf_9 : decode cX4_squareOf 9 = .ok (.getfield 21, 3) := by decide +kernel
theorem dX4_squareOf_12 : decode cX4_squareOf 12 = .ok (.isub, 1) := by decide +kernel
theorem dX4_squareOf_13 : decode cX4_squareOf 13 = .ok (.istore_n 2, 1) := by decide +kernel
theorem dX4_squareOf_14 : decode cX4_squareOf 14 = .ok (.aload_n 0, 1) := by decide +kernel
theorem dX4_squareOf_15 : decode cX4_squareOf 15 = .ok (.getfield 18, 3) := by decide +kernel
theorem dX4_squareOf_18 : decode cX4_squareOf 18 = .ok (.iload_n 1, 1) := by decide +kernel
theorem dX4_squareOf_19 : decode cX4_squareOf 19 = .ok (.invokestatic 43, 3) := by decide +kernel
theorem dX4_squareOf_22 : decode cX4_squareOf 22 = .ok (.aload_n 0, 1) := by decide +kernel
theorem dX4_squareOf_23 : decode cX4_squareOf 23 = .ok (.getfield 25, 3) := by decide +kernel
theorem dX4_squareOf_26 : decode cX4_squareOf 26 = .ok (.isub, 1) := by decide +kernel
theorem dX4_squareOf_27 : decode cX4_squareOf 27 = .ok (.istore_n 3, 1) := by decide +kernel
theorem dX4_squareOf_28 : decode cX4_squareOf 28 = .ok (.iload_n 2, 1) := by decide +kernel
theorem dX4_squareOf_29 : decode cX4_squareOf 29 = .ok (.iload_n 2, 1) := by decide +kernel
theorem dX4_squareOf_30 : decode cX4_squareOf 30 = .ok (.imul, 1) := by decide +kernel
theorem dX4_squareOf_31 : decode cX4_squareOf 31 = .ok (.iload_n 3, 1) := by decide +kernel
theorem dX4_squareOf_32 : decode cX4_squareOf 32 = .ok (.iload_n 3, 1) := by decide +kernel
theorem dX4_squareOf_33 : decode cX4_squareOf 33 = .ok (.imul, 1) := by decide +kernel
theorem dX4_squareOf_34 : decode cX4_squareOf 34 = .ok (.iadd, 1) := by decide +kernel
theorem dX4_squareOf_35 : decode cX4_squareOf 35 = .ok (.ireturn, 1) := by decide +kernel
theorem dX4_nearestOf_0 : decode cX4_nearestOf 0 = .ok (.sipush 20000, 3) := by decide +kernel
theorem dX4_nearestOf_3 : decode cX4_nearestOf 3 = .ok (.istore_n 3, 1) := by decide +kernel
theorem dX4_nearestOf_4 : decode cX4_nearestOf 4 = .ok (.iconst 0, 1) := by decide +kernel
theorem dX4_nearestOf_5 : decode cX4_nearestOf 5 = .ok (.istore 4, 2) := by decide +kernel
theorem dX4_nearestOf_7 : decode cX4_nearestOf 7 = .ok (.iload 4, 2) := by decide +kernel
theorem dX4_nearestOf_9 : decode cX4_nearestOf 9 = .ok (.aload_n 0, 1) := by decide +kernel
theorem dX4_nearestOf_10 : decode cX4_nearestOf 10 = .ok (.getfield 28, 3) := by decide +kernel
theorem dX4_nearestOf_13 : decode cX4_nearestOf 13 = .ok (.if_icmp .ge 36, 3) := by decide +kernel
theorem dX4_nearestOf_16 : decode cX4_nearestOf 16 = .ok (.iload 4, 2) := by decide +kernel
theorem dX4_nearestOf_18 : decode cX4_nearestOf 18 = .ok (.iload_n 2, 1) := by decide +kernel
theorem dX4_nearestOf_19 : decode cX4_nearestOf 19 = .ok (.if_icmp .eq 24, 3) := by decide +kernel
theorem dX4_nearestOf_22 : decode cX4_nearestOf 22 = .ok (.aload_n 0, 1) := by decide +kernel
theorem dX4_nearestOf_23 : decode cX4_nearestOf 23 = .ok (.iload 4, 2) := by decide +kernel
theorem dX4_nearestOf_25 : decode cX4_nearestOf 25 = .ok (.invokevirtual 47, 3) := by decide +kernel
theorem dX4_nearestOf_28 : decode cX4_nearestOf 28 = .ok (.iload_n 1, 1) := by decide +kernel
theorem dX4_nearestOf_29 : decode cX4_nearestOf 29 = .ok (.if_icmp .ne 14, 3) := by decide +kernel
theorem dX4_nearestOf_32 : decode cX4_nearestOf 32 = .ok (.iload_n 3, 1) := by decide +kernel
theorem dX4_nearestOf_33 : decode cX4_nearestOf 33 = .ok (.aload_n 0, 1) := by decide +kernel
theorem dX4_nearestOf_34 : decode cX4_nearestOf 34 = .ok (.iload 4, 2) := by decide +kernel
theorem dX4_nearestOf_36 : decode cX4_nearestOf 36 = .ok (.invokevirtual 51, 3) := by decide +kernel
theorem dX4_nearestOf_39 : decode cX4_nearestOf 39 = .ok (.invokestatic 54, 3) := by decide +kernel
theorem dX4_nearestOf_42 : decode cX4_nearestOf 42 = .ok (.istore_n 3, 1) := by decide +kernel
theorem dX4_nearestOf_43 : decode cX4_nearestOf 43 = .ok (.iinc 4 1, 3) := by decide +kernel
theorem dX4_nearestOf_46 : decode cX4_nearestOf 46 = .ok (.goto (-39), 3) := by decide +kernel
theorem dX4_nearestOf_49 : decode cX4_nearestOf 49 = .ok (.iload_n 3, 1) := by decide +kernel
theorem dX4_nearestOf_50 : decode cX4_nearestOf 50 = .ok (.ireturn, 1) := by decide +kernel
theorem dX4_whose_0 : decode cX4_whose 0 = .ok (.aload_n 0, 1) := by decide +kernel
theorem dX4_whose_1 : decode cX4_whose 1 = .ok (.iconst 0, 1) := by decide +kernel
theorem dX4_whose_2 : decode cX4_whose 2 = .ok (.iconst (-1), 1) := by decide +kernel
theorem dX4_whose_3 : decode cX4_whose 3 = .ok (.invokevirtual 57, 3) := by decide +kernel
theorem dX4_whose_6 : decode cX4_whose 6 = .ok (.istore_n 1, 1) := by decide +kernel
theorem dX4_whose_7 : decode cX4_whose 7 = .ok (.aload_n 0, 1) := by decide +kernel
theorem dX4_whose_8 : decode cX4_whose 8 = .ok (.iconst 1, 1) := by decide +kernel
theorem dX4_whose_9 : decode cX4_whose 9 = .ok (.iconst (-1), 1) := by decide +kernel
theorem dX4_whose_10 : decode cX4_whose 10 = .ok (.invokevirtual 57, 3) := by decide +kernel
theorem dX4_whose_13 : decode cX4_whose 13 = .ok (.istore_n 2, 1) := by decide +kernel
theorem dX4_whose_14 : decode cX4_whose 14 = .ok (.iload_n 1, 1) := by decide +kernel
theorem dX4_whose_15 : decode cX4_whose 15 = .ok (.iload_n 2, 1) := by decide +kernel
theorem dX4_whose_16 : decode cX4_whose 16 = .ok (.if_icmp .ne 6, 3) := by decide +kernel
theorem dX4_whose_19 : decode cX4_whose 19 = .ok (.bipush (-2), 2) := by decide +kernel
theorem dX4_whose_21 : decode cX4_whose 21 = .ok (.ireturn, 1) := by decide +kernel
theorem dX4_whose_22 : decode cX4_whose 22 = .ok (.iload_n 1, 1) := by decide +kernel
theorem dX4_whose_23 : decode cX4_whose 23 = .ok (.iload_n 2, 1) := by decide +kernel
theorem dX4_whose_24 : decode cX4_whose 24 = .ok (.if_icmp .ge 7, 3) := by decide +kernel
theorem dX4_whose_27 : decode cX4_whose 27 = .ok (.iconst 0, 1) := by decide +kernel
theorem dX4_whose_28 : decode cX4_whose 28 = .ok (.goto 4, 3) := by decide +kernel
theorem dX4_whose_31 : decode cX4_whose 31 = .ok (.iconst 1, 1) := by decide +kernel
theorem dX4_whose_32 : decode cX4_whose 32 = .ok (.ireturn, 1) := by decide +kernel
theorem dX4_pointsWithout_0 : decode cX4_pointsWithout 0 = .ok (.aload_n 0, 1) := by decide +kernel
theorem dX4_pointsWithout_1 : decode cX4_pointsWithout 1 = .ok (.iconst 0, 1) := by decide +kernel
theorem dX4_pointsWithout_2 : decode cX4_pointsWithout 2 = .ok (.iload_n 1, 1) := by decide +kernel
theorem dX4_pointsWithout_3 : decode cX4_pointsWithout 3 = .ok (.invokevirtual 57, 3) := by decide +kernel
theorem dX4_pointsWithout_6 : decode cX4_pointsWithout 6 = .ok (.istore_n 2, 1) := by decide +kernel
theorem dX4_pointsWithout_7 : decode cX4_pointsWithout 7 = .ok (.aload_n 0, 1) := by decide +kernel
theorem dX4_pointsWithout_8 : decode cX4_pointsWithout 8 = .ok (.iconst 1, 1) := by decide +kernel
theorem dX4_pointsWithout_9 : decode cX4_pointsWithout 9 = .ok (.iload_n 1, 1) := by decide +kernel
theorem dX4_pointsWithout_10 : decode cX4_pointsWithout 10 = .ok (.invokevirtual 57, 3) := by decide +kernel
theorem dX4_pointsWithout_13 : decode cX4_pointsWithout 13 = .ok (.istore_n 3, 1) := by decide +kernel
theorem dX4_pointsWithout_14 : decode cX4_pointsWithout 14 = .ok (.iload_n 2, 1) := by decide +kernel
theorem dX4_pointsWithout_15 : decode cX4_pointsWithout 15 = .ok (.iload_n 3, 1) := by decide +kernel
theorem dX4_pointsWithout_16 : decode cX4_pointsWithout 16 = .ok (.if_icmp .ge 7, 3) := by decide +kernel
theorem dX4_pointsWithout_19 : decode cX4_pointsWithout 19 = .ok (.iconst 0, 1) := by decide +kernel
theorem dX4_pointsWithout_20 : decode cX4_pointsWithout 20 = .ok (.goto 4, 3) := by decide +kernel
theorem dX4_pointsWithout_23 : decode cX4_pointsWithout 23 = .ok (.iconst 1, 1) := by decide +kernel
theorem dX4_pointsWithout_24 : decode cX4_pointsWithout 24 = .ok (.istore 4, 2) := by decide +kernel
theorem dX4_pointsWithout_26 : decode cX4_pointsWithout 26 = .ok (.iload_n 2, 1) := by decide +kernel
theorem dX4_pointsWithout_27 : decode cX4_pointsWithout 27 = .ok (.iload_n 3, 1) := by decide +kernel
theorem dX4_pointsWithout_28 : decode cX4_pointsWithout 28 = .ok (.invokestatic 31, 3) := by decide +kernel
theorem dX4_pointsWithout_31 : decode cX4_pointsWithout 31 = .ok (.istore 5, 2) := by decide +kernel
theorem dX4_pointsWithout_33 : decode cX4_pointsWithout 33 = .ok (.iconst 0, 1) := by decide +kernel
theorem dX4_pointsWithout_34 : decode cX4_pointsWithout 34 = .ok (.istore 6, 2) := by decide +kernel
theorem dX4_pointsWithout_36 : decode cX4_pointsWithout 36 = .ok (.iconst 0, 1) := by decide +kernel
theorem dX4_pointsWithout_37 : decode cX4_pointsWithout 37 = .ok (.istore 7, 2) := by decide +kernel
theorem dX4_pointsWithout_39 : decode cX4_pointsWithout 39 = .ok (.iload 7, 2) := by decide +kernel
theorem dX4_pointsWithout_41 : decode cX4_pointsWithout 41 = .ok (.aload_n 0, 1) := by decide +kernel
theorem dX4_pointsWithout_42 : decode cX4_pointsWithout 42 = .ok (.getfield 28, 3) := by decide +kernel
theorem dX4_pointsWithout_45 : decode cX4_pointsWithout 45 = .ok (.if_icmp .ge 40, 3) := by decide +kernel
theorem dX4_pointsWithout_48 : decode cX4_pointsWithout 48 = .ok (.iload 7, 2) := by decide +kernel
theorem dX4_pointsWithout_50 : decode cX4_pointsWithout 50 = .ok (.iload_n 1, 1) := by decide +kernel
theorem dX4_pointsWithout_51 : decode cX4_pointsWithout 51 = .ok (.if_icmp .eq 28, 3) := by decide +kernel
theorem dX4_pointsWithout_54 : decode cX4_pointsWithout 54 = .ok (.aload_n 0, 1) := by decide +kernel
theorem dX4_pointsWithout_55 : decode cX4_pointsWithout 55 = .ok (.iload 7, 2) := by decide +kernel
theorem dX4_pointsWithout_57 : decode cX4_pointsWithout 57 = .ok (.invokevirtual 47, 3) := by decide +kernel
theorem dX4_pointsWithout_60 : decode cX4_pointsWithout 60 = .ok (.iload 4, 2) := by decide +kernel
theorem dX4_pointsWithout_62 : decode cX4_pointsWithout 62 = .ok (.if_icmp .ne 17, 3) := by decide +kernel
theorem dX4_pointsWithout_65 : decode cX4_pointsWithout 65 = .ok (.aload_n 0, 1) := by decide +kernel
theorem dX4_pointsWithout_66 : decode cX4_pointsWithout 66 = .ok (.iload 7, 2) := by decide +kernel
theorem dX4_pointsWithout_68 : decode cX4_pointsWithout 68 = .ok (.invokevirtual 51, 3) := by decide +kernel
theorem dX4_pointsWithout_71 : decode cX4_pointsWithout 71 = .ok (.iload 5, 2) := by decide +kernel
theorem dX4_pointsWithout_73 : decode cX4_pointsWithout 73 = .ok (.if_icmp .ge 6, 3) := by decide +kernel
theorem dX4_pointsWithout_76 : decode cX4_pointsWithout 76 = .ok (.iinc 6 1, 3) := by decide +kernel
theorem dX4_pointsWithout_79 : decode cX4_pointsWithout 79 = .ok (.iinc 7 1, 3) := by decide +kernel
theorem dX4_pointsWithout_82 : decode cX4_pointsWithout 82 = .ok (.goto (-43), 3) := by decide +kernel
theorem dX4_pointsWithout_85 : decode cX4_pointsWithout 85 = .ok (.iload 4, 2) := by decide +kernel
theorem dX4_pointsWithout_87 : decode cX4_pointsWithout 87 = .ok (.ifCond .ne 8, 3) := by decide +kernel
theorem dX4_pointsWithout_90 : decode cX4_pointsWithout 90 = .ok (.iload 6, 2) := by decide +kernel
theorem dX4_pointsWithout_92 : decode cX4_pointsWithout 92 = .ok (.goto 6, 3) := by decide +kernel
theorem dX4_pointsWithout_95 : decode cX4_pointsWithout 95 = .ok (.iload 6, 2) := by decide +kernel
theorem dX4_pointsWithout_97 : decode cX4_pointsWithout 97 = .ok (.ineg, 1) := by decide +kernel
theorem dX4_pointsWithout_98 : decode cX4_pointsWithout 98 = .ok (.ireturn, 1) := by decide +kernel
theorem dX4_nearestBall_0 : decode cX4_nearestBall 0 = .ok (.bipush (-2), 2) := by decide +kernel
theorem dX4_nearestBall_2 : decode cX4_nearestBall 2 = .ok (.istore_n 1, 1) := by decide +kernel
theorem dX4_nearestBall_3 : decode cX4_nearestBall 3 = .ok (.iconst 0, 1) := by decide +kernel
theorem dX4_nearestBall_4 : decode cX4_nearestBall 4 = .ok (.istore_n 2, 1) := by decide +kernel
theorem dX4_nearestBall_5 : decode cX4_nearestBall 5 = .ok (.iload_n 2, 1) := by decide +kernel
theorem dX4_nearestBall_6 : decode cX4_nearestBall 6 = .ok (.aload_n 0, 1) := by decide +kernel
theorem dX4_nearestBall_7 : decode cX4_nearestBall 7 = .ok (.getfield 28, 3) := by decide +kernel
theorem dX4_nearestBall_10 : decode cX4_nearestBall 10 = .ok (.if_icmp .ge 28, 3) := by decide +kernel
theorem dX4_nearestBall_13 : decode cX4_nearestBall 13 = .ok (.iload_n 1, 1) := by decide +kernel
theorem dX4_nearestBall_14 : decode cX4_nearestBall 14 = .ok (.ifCond .lt 16, 3) := by decide +kernel
theorem dX4_nearestBall_17 : decode cX4_nearestBall 17 = .ok (.aload_n 0, 1) := by decide +kernel
theorem dX4_nearestBall_18 : decode cX4_nearestBall 18 = .ok (.iload_n 2, 1) := by decide +kernel
theorem dX4_nearestBall_19 : decode cX4_nearestBall 19 = .ok (.invokevirtual 51, 3) := by decide +kernel
theorem dX4_nearestBall_22 : decode cX4_nearestBall 22 = .ok (.aload_n 0, 1) := by decide +kernel
theorem dX4_nearestBall_23 : decode cX4_nearestBall 23 = .ok (.iload_n 1, 1) := by decide +kernel
theorem dX4_nearestBall_24 : decode cX4_nearestBall 24 = .ok (.invokevirtual 51, 3) := by decide +kernel
theorem dX4_nearestBall_27 : decode cX4_nearestBall 27 = .ok (.if_icmp .ge 5, 3) := by decide +kernel
theorem dX4_nearestBall_30 : decode cX4_nearestBall 30 = .ok (.iload_n 2, 1) := by decide +kernel
theorem dX4_nearestBall_31 : decode cX4_nearestBall 31 = .ok (.istore_n 1, 1) := by decide +kernel
theorem dX4_nearestBall_32 : decode cX4_nearestBall 32 = .ok (.iinc 2 1, 3) := by decide +kernel
theorem dX4_nearestBall_35 : decode cX4_nearestBall 35 = .ok (.goto (-30), 3) := by decide +kernel
theorem dX4_nearestBall_38 : decode cX4_nearestBall 38 = .ok (.iload_n 1, 1) := by decide +kernel
theorem dX4_nearestBall_39 : decode cX4_nearestBall 39 = .ok (.ireturn, 1) := by decide +kernel
theorem dX4_nearestSquare_0 : decode cX4_nearestSquare 0 = .ok (.aload_n 0, 1) := by decide +kernel
theorem dX4_nearestSquare_1 : decode cX4_nearestSquare 1 = .ok (.invokevirtual 60, 3) := by decide +kernel
theorem dX4_nearestSquare_4 : decode cX4_nearestSquare 4 = .ok (.istore_n 1, 1) := by decide +kernel
theorem dX4_nearestSquare_5 : decode cX4_nearestSquare 5 = .ok (.iload_n 1, 1) := by decide +kernel
theorem dX4_nearestSquare_6 : decode cX4_nearestSquare 6 = .ok (.ifCond .ge 8, 3) := by decide +kernel
theorem dX4_nearestSquare_9 : decode cX4_nearestSquare 9 = .ok (.bipush (-2), 2) := by decide +kernel
theorem dX4_nearestSquare_11 : decode cX4_nearestSquare 11 = .ok (.goto 8, 3) := by decide +kernel
theorem dX4_nearestSquare_14 : decode cX4_nearestSquare 14 = .ok (.aload_n 0, 1) := by decide +kernel
theorem dX4_nearestSquare_15 : decode cX4_nearestSquare 15 = .ok (.iload_n 1, 1) := by decide +kernel
theorem dX4_nearestSquare_16 : decode cX4_nearestSquare 16 = .ok (.invokevirtual 51, 3) := by decide +kernel
theorem dX4_nearestSquare_19 : decode cX4_nearestSquare 19 = .ok (.ireturn, 1) := by decide +kernel
theorem dX4_ballToShoot_0 : decode cX4_ballToShoot 0 = .ok (.bipush (-2), 2) := by decide +kernel
theorem dX4_ballToShoot_2 : decode cX4_ballToShoot 2 = .ok (.istore_n 2, 1) := by decide +kernel
theorem dX4_ballToShoot_3 : decode cX4_ballToShoot 3 = .ok (.iconst 0, 1) := by decide +kernel
theorem dX4_ballToShoot_4 : decode cX4_ballToShoot 4 = .ok (.istore_n 3, 1) := by decide +kernel
theorem dX4_ballToShoot_5 : decode cX4_ballToShoot 5 = .ok (.iconst 0, 1) := by decide +kernel
theorem dX4_ballToShoot_6 : decode cX4_ballToShoot 6 = .ok (.istore 4, 2) := by decide +kernel
theorem dX4_ballToShoot_8 : decode cX4_ballToShoot 8 = .ok (.iload 4, 2) := by decide +kernel
theorem dX4_ballToShoot_10 : decode cX4_ballToShoot 10 = .ok (.aload_n 0, 1) := by decide +kernel
theorem dX4_ballToShoot_11 : decode cX4_ballToShoot 11 = .ok (.getfield 28, 3) := by decide +kernel
theorem dX4_ballToShoot_14 : decode cX4_ballToShoot 14 = .ok (.if_icmp .ge 59, 3) := by decide +kernel
theorem dX4_ballToShoot_17 : decode cX4_ballToShoot 17 = .ok (.aload_n 0, 1) := by decide +kernel
theorem dX4_ballToShoot_18 : decode cX4_ballToShoot 18 = .ok (.iload 4, 2) := by decide +kernel
theorem dX4_ballToShoot_20 : decode cX4_ballToShoot 20 = .ok (.invokevirtual 47, 3) := by decide +kernel
theorem dX4_ballToShoot_23 : decode cX4_ballToShoot 23 = .ok (.iconst 1, 1) := by decide +kernel
theorem dX4_ballToShoot_24 : decode cX4_ballToShoot 24 = .ok (.iload_n 1, 1) := by decide +kernel
theorem dX4_ballToShoot_25 : decode cX4_ballToShoot 25 = .ok (.isub, 1) := by decide +kernel
theorem dX4_ballToShoot_26 : decode cX4_ballToShoot 26 = .ok (.if_icmp .ne 41, 3) := by decide +kernel
theorem dX4_ballToShoot_29 : decode cX4_ballToShoot 29 = .ok (.iload_n 1, 1) := by decide +kernel
theorem dX4_ballToShoot_30 : decode cX4_ballToShoot 30 = .ok (.ifCond .ne 12, 3) := by decide +kernel
theorem dX4_ballToShoot_33 : decode cX4_ballToShoot 33 = .ok (.aload_n 0, 1) := by decide +kernel
theorem dX4_ballToShoot_34 : decode cX4_ballToShoot 34 = .ok (.iload 4, 2) := by decide +kernel
theorem dX4_ballToShoot_36 : decode cX4_ballToShoot 36 = .ok (.invokevirtual 64, 3) := by decide +kernel
theorem dX4_ballToShoot_39 : decode cX4_ballToShoot 39 = .ok (.goto 10, 3) := by decide +kernel
theorem dX4_ballToShoot_42 : decode cX4_ballToShoot 42 = .ok (.aload_n 0, 1) := by decide +kernel
theorem dX4_ballToShoot_43 : decode cX4_ballToShoot 43 = .ok (.iload 4, 2) := by decide +kernel
theorem dX4_ballToShoot_45 : decode cX4_ballToShoot 45 = .ok (.invokevirtual 64, 3) := by decide +kernel
theorem dX4_ballToShoot_48 : decode cX4_ballToShoot 48 = .ok (.ineg, 1) := by decide +kernel
theorem dX4_ballToShoot_49 : decode cX4_ballToShoot 49 = .ok (.istore 5, 2) := by decide +kernel
theorem dX4_ballToShoot_51 : decode cX4_ballToShoot 51 = .ok (.iload_n 2, 1) := by decide +kernel
theorem dX4_ballToShoot_52 : decode cX4_ballToShoot 52 = .ok (.ifCond .lt 9, 3) := by decide +kernel
theorem dX4_ballToShoot_55 : decode cX4_ballToShoot 55 = .ok (.iload 5, 2) := by decide +kernel
theorem dX4_ballToShoot_57 : decode cX4_ballToShoot 57 = .ok (.iload_n 3, 1) := by decide +kernel
theorem dX4_ballToShoot_58 : decode cX4_ballToShoot 58 = .ok (.if_icmp .le 9, 3) := by decide +kernel
theorem dX4_ballToShoot_61 : decode cX4_ballToShoot 61 = .ok (.iload 4, 2) := by decide +kernel
theorem dX4_ballToShoot_63 : decode cX4_ballToShoot 63 = .ok (.istore_n 2, 1) := by decide +kernel
theorem dX4_ballToShoot_64 : decode cX4_ballToShoot 64 = .ok (.iload 5, 2) := by decide +kernel
theorem dX4_ballToShoot_66 : decode cX4_ballToShoot 66 = .ok (.istore_n 3, 1) := by decide +kernel
theorem dX4_ballToShoot_67 : decode cX4_ballToShoot 67 = .ok (.iinc 4 1, 3) := by decide +kernel
theorem dX4_ballToShoot_70 : decode cX4_ballToShoot 70 = .ok (.goto (-62), 3) := by decide +kernel
theorem dX4_ballToShoot_73 : decode cX4_ballToShoot 73 = .ok (.iload_n 2, 1) := by decide +kernel
theorem dX4_ballToShoot_74 : decode cX4_ballToShoot 74 = .ok (.ireturn, 1) := by decide +kernel
theorem dX5_init_0 : decode cX5_init 0 = .ok (.aload_n 0, 1) := by decide +kernel
theorem dX5_init_1 : decode cX5_init 1 = .ok (.invokespecial 3, 3) := by decide +kernel
theorem dX5_init_4 : decode cX5_init 4 = .ok (.aload_n 0, 1) := by decide +kernel
theorem dX5_init_5 : decode cX5_init 5 = .ok (.bipush 64, 2) := by decide +kernel
theorem dX5_init_7 : decode cX5_init 7 = .ok (.newarray .int, 2) := by decide +kernel
theorem dX5_init_9 : decode cX5_init 9 = .ok (.putfield 11, 3) := by decide +kernel
theorem dX5_init_12 : decode cX5_init 12 = .ok (.aload_n 0, 1) := by decide +kernel
theorem dX5_init_13 : decode cX5_init 13 = .ok (.bipush 64, 2) := by decide +kernel
theorem dX5_init_15 : decode cX5_init 15 = .ok (.newarray .int, 2) := by decide +kernel
theorem dX5_init_17 : decode cX5_init 17 = .ok (.putfield 15, 3) := by decide +kernel
theorem dX5_init_20 : decode cX5_init 20 = .ok (.return_, 1) := by decide +kernel
theorem dX5_heightAt_0 : decode cX5_heightAt 0 = .ok (.aload_n 0, 1) := by decide +kernel
theorem dX5_heightAt_1 : decode cX5_heightAt 1 = .ok (.getfield 11, 3) := by decide +kernel
theorem dX5_heightAt_4 : decode cX5_heightAt 4 = .ok (.iload_n 1, 1) := by decide +kernel
theorem dX5_heightAt_5 : decode cX5_heightAt 5 = .ok (.invokestatic 18, 3) := by decide +kernel
theorem dX5_heightAt_8 : decode cX5_heightAt 8 = .ok (.ireturn, 1) := by decide +kernel
theorem dX5_readText_0 : decode cX5_readText 0 = .ok (.aload_n 0, 1) := by decide +kernel
theorem dX5_readText_1 : decode cX5_readText 1 = .ok (.iconst 0, 1) := by decide +kernel
theorem dX5_readText_2 : decode cX5_readText 2 = .ok (.putfield 22, 3) := by decide +kernel
theorem dX5_readText_5 : decode cX5_readText 5 = .ok (.iload_n 2, 1) := by decide +kernel
theorem dX5_readText_6 : decode cX5_readText 6 = .ok (.aload_n 1, 1) := by decide +kernel
theorem dX5_readText_7 : decode cX5_readText 7 = .ok (.arraylength, 1) := by decide +kernel
theorem dX5_readText_8 : decode cX5_readText 8 = .ok (.invokestatic 26, 3) := by decide +kernel
theorem dX5_readText_11 : decode cX5_readText 11 = .ok (.istore_n 3, 1) := by decide +kernel
theorem dX5_readText_12 : decode cX5_readText 12 = .ok (.iconst 0, 1) := by decide +kernel
theorem dX5_readText_13 : decode cX5_readText 13 = .ok (.istore 4, 2) := by decide +kernel
theorem dX5_readText_15 : decode cX5_readText 15 = .ok (.iconst 0, 1) := by decide +kernel
theorem dX5_readText_16 : decode cX5_readText 16 = .ok (.istore 5, 2) := by decide +kernel
theorem dX5_readText_18 : decode cX5_readText 18 = .ok (.iload 5, 2) := by decide +kernel
theorem dX5_readText_20 : decode cX5_readText 20 = .ok (.bipush 8, 2) := by decide +kernel
theorem dX5_readText_22 : decode cX5_readText 22 = .ok (.if_icmp .ge 33, 3) := by decide +kernel
theorem dX5_readText_25 : decode cX5_readText 25 = .ok (.aload_n 0, 1) := by decide +kernel
theorem dX5_readText_26 : decode cX5_readText 26 = .ok (.aload_n 1, 1) := by decide +kernel
theorem dX5_readText_27 : decode cX5_readText 27 = .ok (.iload_n 3, 1) := by decide +kernel
theorem dX5_readText_28 : decode cX5_readText 28 = .ok (.iload 4, 2) := by decide +kernel
theorem dX5_readText_30 : decode cX5_readText 30 = .ok (.iload 5, 2) := by decide +kernel
theorem dX5_readText_32 : decode cX5_readText 32 = .ok (.invokevirtual 32, 3) := by decide +kernel
theorem dX5_readText_35 : decode cX5_readText 35 = .ok (.istore 4, 2) := by decide +kernel
theorem dX5_readText_37 : decode cX5_readText 37 = .ok (.aload_n 0, 1) := by decide +kernel
theorem dX5_readText_38 : decode cX5_readText 38 = .ok (.getfield 22, 3) := by decide +kernel
theorem dX5_readText_41 : decode cX5_readText 41 = .ok (.ifCond .eq 8, 3) := by decide +kernel
theorem dX5_readText_44 : decode cX5_readText 44 = .ok (.aload_n 0, 1) := by decide +kernel
theorem dX5_readText_45 : decode cX5_readText 45 = .ok (.getfield 22, 3) := by decide +kernel
theorem dX5_readText_48 : decode cX5_readText 48 = .ok (.ireturn, 1) := by decide +kernel
theorem dX5_readText_49 : decode cX5_readText 49 = .ok (.iinc 5 1, 3) := by decide +kernel
theorem dX5_readText_52 : decode cX5_readText 52 = .ok (.goto (-34), 3) := by decide +kernel
theorem dX5_readText_55 : decode cX5_readText 55 = .ok (.aload_n 0, 1) := by decide +kernel
theorem dX5_readText_56 : decode cX5_readText 56 = .ok (.getfield 15, 3) := by decide +kernel
theorem dX5_readText_59 : decode cX5_readText 59 = .ok (.iconst 0, 1) := by decide +kernel
theorem dX5_readText_60 : decode cX5_readText 60 = .ok (.aload_n 0, 1) := by decide +kernel
theorem dX5_readText_61 : decode cX5_readText 61 = .ok (.getfield 11, 3) := by decide +kernel
theorem dX5_readText_64 : decode cX5_readText 64 = .ok (.iconst 0, 1) := by decide +kernel
theorem dX5_readText_65 : decode cX5_readText 65 = .ok (.bipush 64, 2) := by decide +kernel
theorem dX5_readText_67 : decode cX5_readText 67 = .ok (.invokestatic 36, 3) := by decide +kernel
theorem dX5_readText_70 : decode cX5_readText 70 = .ok (.iconst 0, 1) := by decide +kernel
theorem dX5_readText_71 : decode cX5_readText 71 = .ok (.istore 5, 2) := by decide +kernel
theorem dX5_readText_73 : decode cX5_readText 73 = .ok (.iconst 0, 1) := by decide +kernel
theorem dX5_readText_74 : decode cX5_readText 74 = .ok (.istore 6, 2) := by decide +kernel
theorem dX5_readText_76 : decode cX5_readText 76 = .ok (.iload 6, 2) := by decide +kernel
theorem dX5_readText_78 : decode cX5_readText 78 = .ok (.bipush 64, 2) := by decide +kernel
theorem dX5_readText_80 : decode cX5_readText 80 = .ok (.if_icmp .ge 23, 3) := by decide +kernel
theorem dX5_readText_83 : decode cX5_readText 83 = .ok (.iload 5, 2) := by decide +kernel
theorem dX5_readText_85 : decode cX5_readText 85 = .ok (.aload_n 0, 1) := by decide +kernel
theorem dX5_readText_86 : decode cX5_readText 86 = .ok (.getfield 11, 3) := by decide +kernel
theorem dX5_readText_89 : decode cX5_readText 89 = .ok (.iload 6, 2) := by decide +kernel
theorem dX5_readText_91 : decode cX5_readText 91 = .ok (.iaload, 1) := by decide +kernel
theorem dX5_readText_92 : decode cX5_readText 92 = .ok (.invokestatic 42, 3) := by decide +kernel
theorem dX5_readText_95 : decode cX5_readText 95 = .ok (.istore 5, 2) := by decide +kernel
theorem dX5_readText_97 : decode cX5_readText 97 = .ok (.iinc 6 1, 3) := by decide +kernel
theorem dX5_readText_100 : decode cX5_readText 100 = .ok (.goto (-24), 3) := by decide +kernel
theorem dX5_readText_103 : decode cX5_readText 103 = .ok (.iload 5, 2) := by decide +kernel
theorem dX5_readText_105 : decode cX5_readText 105 = .ok (.ireturn, 1) := by decide +kernel
theorem dX5_readRow_0 : decode cX5_readRow 0 = .ok (.iconst 0, 1) := by decide +kernel
theorem dX5_readRow_1 : decode cX5_readRow 1 = .ok (.istore 5, 2) := by decide +kernel
theorem dX5_readRow_3 : decode cX5_readRow 3 = .ok (.iload_n 3, 1) := by decide +kernel
theorem dX5_readRow_4 : decode cX5_readRow 4 = .ok (.istore 6, 2) := by decide +kernel
theorem dX5_readRow_6 : decode cX5_readRow 6 = .ok (.iconst 0, 1) := by decide +kernel
theorem dX5_readRow_7 : decode cX5_readRow 7 = .ok (.istore 7, 2) := by decide +kernel
theorem dX5_readRow_9 : decode cX5_readRow 9 = .ok (.iload 7, 2) := by decide +kernel
theorem dX5_readRow_11 : decode cX5_readRow 11 = .ok (.bipush 8, 2) := by decide +kernel
theorem dX5_readRow_13 : decode cX5_readRow 13 = .ok (.if_icmp .gt 210, 3) := by decide +kernel
theorem dX5_readRow_16 : decode cX5_readRow 16 = .ok (.aload_n 1, 1) := by decide +kernel
theorem dX5_readRow_17 : decode cX5_readRow 17 = .ok (.iload_n 2, 1) := by decide +kernel
theorem dX5_readRow_18 : decode cX5_readRow 18 = .ok (.iload 6, 2) := by decide +kernel
theorem dX5_readRow_20 : decode cX5_readRow 20 = .ok (.invokestatic 45, 3) := by decide +kernel
theorem dX5_readRow_23 : decode cX5_readRow 23 = .ok (.istore 8, 2) := by decide +kernel
theorem dX5_readRow_25 : decode cX5_readRow 25 = .ok (.iload 8, 2) := by decide +kernel
theorem dX5_readRow_27 : decode cX5_readRow 27 = .ok (.bipush 97, 2) := by decide +kernel
theorem dX5_readRow_29 : decode cX5_readRow 29 = .ok (.if_icmp .lt 14, 3) := by decide +kernel
theorem dX5_readRow_32 : decode cX5_readRow 32 = .ok (.iload 8, 2) := by decide +kernel
theorem dX5_readRow_34 : decode cX5_readRow 34 = .ok (.bipush 104, 2) := by decide +kernel
theorem dX5_readRow_36 : decode cX5_readRow 36 = .ok (.if_icmp .gt 7, 3) := by decide +kernel
theorem dX5_readRow_39 : decode cX5_readRow 39 = .ok (.iconst 1, 1) := by decide +kernel
theorem dX5_readRow_40 : decode cX5_readRow 40 = .ok (.goto 4, 3) := by decide +kernel
theorem dX5_readRow_43 : decode cX5_readRow 43 = .ok (.iconst 0, 1) := by decide +kernel
theorem dX5_readRow_44 : decode cX5_readRow 44 = .ok (.istore 9, 2) := by decide +kernel
theorem dX5_readRow_46 : decode cX5_readRow 46 = .ok (.iload 9, 2) := by decide +kernel
theorem dX5_readRow_48 : decode cX5_readRow 48 = .ok (.ifCond .ne 63, 3) := by decide +kernel
theorem dX5_readRow_51 : decode cX5_readRow 51 = .ok (.iload 8, 2) := by decide +kernel
theorem dX5_readRow_53 : decode cX5_readRow 53 = .ok (.invokestatic 49, 3) := by decide +kernel
theorem dX5_readRow_56 : decode cX5_readRow 56 = .ok (.ifCond .ne 55, 3) := by decide +kernel
theorem dX5_readRow_59 : decode cX5_readRow 59 = .ok (.iload 8, 2) := by decide +kernel
theorem dX5_readRow_61 : decode cX5_readRow 61 = .ok (.iload 4, 2) := by decide +kernel
theorem dX5_readRow_63 : decode cX5_readRow 63 = .ok (.bipush 7, 2) := by decide +kernel
theorem dX5_readRow_65 : decode cX5_readRow 65 = .ok (.if_icmp .ne 7, 3) := by decide +kernel
theorem dX5_readRow_68 : decode cX5_readRow 68 = .ok (.iconst (-1), 1) := by decide +kernel
theorem dX5_readRow_69 : decode cX5_readRow 69 = .ok (.goto 5, 3) := by decide +kernel
theorem dX5_readRow_72 : decode cX5_readRow 72 = .ok (.bipush 47, 2) := by decide +kernel
theorem dX5_readRow_74 : decode cX5_readRow 74 = .ok (.if_icmp .ne 7, 3) := by decide +kernel
theorem dX5_readRow_77 : decode cX5_readRow 77 = .ok (.iconst 1, 1) := by decide +kernel
theorem dX5_readRow_78 : decode cX5_readRow 78 = .ok (.goto 4, 3) := by decide +kernel
theorem dX5_readRow_81 : decode cX5_readRow 81 = .ok (.iconst 0, 1) := by decide +kernel
theorem dX5_readRow_82 : decode cX5_readRow 82 = .ok (.istore 10, 2) := by decide +kernel
theorem dX5_readRow_84 : decode cX5_readRow 84 = .ok (.iload 5, 2) := by decide +kernel
theorem dX5_readRow_86 : decode cX5_readRow 86 = .ok (.bipush 8, 2) := by decide +kernel
theorem dX5_readRow_88 : decode cX5_readRow 88 = .ok (.if_icmp .ne 15, 3) := by decide +kernel
theorem dX5_readRow_91 : decode cX5_readRow 91 = .ok (.iload 10, 2) := by decide +kernel
theorem dX5_readRow_93 : decode cX5_readRow 93 = .ok (.ifCond .eq 10, 3) := by decide +kernel
theorem dX5_readRow_96 : decode cX5_readRow 96 = .ok (.iload 6, 2) := by decide +kernel
theorem dX5_readRow_98 : decode cX5_readRow 98 = .ok (.iconst 1, 1) := by decide +kernel
theorem dX5_readRow_99 : decode cX5_readRow 99 = .ok (.iadd, 1) := by decide +kernel
theorem dX5_readRow_100 : decode cX5_readRow 100 = .ok (.goto 10, 3) := by decide +kernel
theorem dX5_readRow_103 : decode cX5_readRow 103 = .ok (.aload_n 0, 1) := by decide +kernel
theorem dX5_readRow_104 : decode cX5_readRow 104 = .ok (.iconst 1, 1) := by decide +kernel
theorem dX5_readRow_105 : decode cX5_readRow 105 = .ok (.iload 6, 2) := by decide +kernel
theorem dX5_readRow_107 : decode cX5_readRow 107 = .ok (.invokevirtual 53, 3) := by decide +kernel
theorem dX5_readRow_110 : decode cX5_readRow 110 = .ok (.ireturn, 1) := by decide +kernel
theorem dX5_readRow_111 : decode cX5_readRow 111 = .ok (.iload 9, 2) := by decide +kernel
theorem dX5_readRow_113 : decode cX5_readRow 113 = .ok (.ifCond .eq 13, 3) := by decide +kernel
theorem dX5_readRow_116 : decode cX5_readRow 116 = .ok (.iload 8, 2) := by decide +kernel
theorem dX5_readRow_118 : decode cX5_readRow 118 = .ok (.bipush 97, 2) := by decide +kernel
theorem dX5_readRow_120 : decode cX5_readRow 120 = .ok (.isub, 1) := by decide +kernel
theorem dX5_readRow_121 : decode cX5_readRow 121 = .ok (.iconst 1, 1) := by decide +kernel
theorem dX5_readRow_122 : decode cX5_readRow 122 = .ok (.iadd, 1) := by decide +kernel
theorem dX5_readRow_123 : decode cX5_readRow 123 = .ok (.goto 4, 3) := by decide +kernel
theorem dX5_readRow_126 : decode cX5_readRow 126 = .ok (.iconst 1, 1) := by decide +kernel
theorem dX5_readRow_127 : decode cX5_readRow 127 = .ok (.istore 10, 2) := by decide +kernel
theorem dX5_readRow_129 : decode cX5_readRow 129 = .ok (.iload 5, 2) := by decide +kernel
theorem dX5_readRow_131 : decode cX5_readRow 131 = .ok (.iload 10, 2) := by decide +kernel
theorem dX5_readRow_133 : decode cX5_readRow 133 = .ok (.iadd, 1) := by decide +kernel
theorem dX5_readRow_134 : decode cX5_readRow 134 = .ok (.bipush 8, 2) := by decide +kernel
theorem dX5_readRow_136 : decode cX5_readRow 136 = .ok (.if_icmp .le 12, 3) := by decide +kernel
theorem dX5_readRow_139 : decode cX5_readRow 139 = .ok (.aload_n 0, 1) := by decide +kernel
theorem dX5_readRow_140 : decode cX5_readRow 140 = .ok (.bipush 6, 2) := by decide +kernel
theorem dX5_readRow_142 : decode cX5_readRow 142 = .ok (.iload 6, 2) := by decide +kernel
theorem dX5_readRow_144 : decode cX5_readRow 144 = .ok (.invokevirtual 53, 3) := by decide +kernel
theorem dX5_readRow_147 : decode cX5_readRow 147 = .ok (.ireturn, 1) := by decide +kernel
theorem dX5_readRow_148 : decode cX5_readRow 148 = .ok (.iload 6, 2) := by decide +kernel
theorem dX5_readRow_150 : decode cX5_readRow 150 = .ok (.iload 9, 2) := by decide +kernel
theorem dX5_readRow_152 : decode cX5_readRow 152 = .ok (.ifCond .eq 7, 3) := by decide +kernel
theorem dX5_readRow_155 : decode cX5_readRow 155 = .ok (.iconst 1, 1) := by decide +kernel
theorem dX5_readRow_156 : decode cX5_readRow 156 = .ok (.goto 4, 3) := by decide +kernel
theorem dX5_readRow_159 : decode cX5_readRow 159 = .ok (.iconst 0, 1) := by decide +kernel
theorem dX5_readRow_160 : decode cX5_readRow 160 = .ok (.iadd, 1) := by decide +kernel
theorem dX5_readRow_161 : decode cX5_readRow 161 = .ok (.istore 6, 2) := by decide +kernel
theorem dX5_readRow_163 : decode cX5_readRow 163 = .ok (.aload_n 1, 1) := by decide +kernel
theorem dX5_readRow_164 : decode cX5_readRow 164 = .ok (.iload_n 2, 1) := by decide +kernel
theorem dX5_readRow_165 : decode cX5_readRow 165 = .ok (.iload 6, 2) := by decide +kernel
theorem dX5_readRow_167 : decode cX5_readRow 167 = .ok (.invokestatic 45, 3) := by decide +kernel
theorem dX5_readRow_170 : decode cX5_readRow 170 = .ok (.istore 11, 2) := by decide +kernel
theorem dX5_readRow_172 : decode cX5_readRow 172 = .ok (.iload 11, 2) := by decide +kernel
theorem dX5_readRow_174 : decode cX5_readRow 174 = .ok (.invokestatic 49, 3) := by decide +kernel
theorem dX5_readRow_177 : decode cX5_readRow 177 = .ok (.ifCond .ne 11, 3) := by decide +kernel
theorem dX5_readRow_180 : decode cX5_readRow 180 = .ok (.aload_n 0, 1) := by decide +kernel
theorem dX5_readRow_181 : decode cX5_readRow 181 = .ok (.iconst 1, 1) := by decide +kernel
theorem dX5_readRow_182 : decode cX5_readRow 182 = .ok (.iload 6, 2) := by decide +kernel
theorem dX5_readRow_184 : decode cX5_readRow 184 = .ok (.invokevirtual 53, 3) := by decide +kernel
theorem dX5_readRow_187 : decode cX5_readRow 187 = .ok (.ireturn, 1) := by decide +kernel
theorem dX5_readRow_188 : decode cX5_readRow 188 = .ok (.aload_n 0, 1) := by decide +kernel
theorem dX5_readRow_189 : decode cX5_readRow 189 = .ok (.bipush 8, 2) := by decide +kernel
theorem dX5_readRow_191 : decode cX5_readRow 191 = .ok (.iload 4, 2) := by decide +kernel
theorem dX5_readRow_193 : decode cX5_readRow 193 = .ok (.imul, 1) := by decide +kernel
theorem dX5_readRow_194 : decode cX5_readRow 194 = .ok (.iload 5, 2) := by decide +kernel
theorem dX5_readRow_196 : decode cX5_readRow 196 = .ok (.iadd, 1) := by decide +kernel
theorem dX5_readRow_197 : decode cX5_readRow 197 = .ok (.iload 10, 2) := by decide +kernel
theorem dX5_readRow_199 : decode cX5_readRow 199 = .ok (.iload 11, 2) := by decide +kernel
theorem dX5_readRow_201 : decode cX5_readRow 201 = .ok (.bipush 48, 2) := by decide +kernel
theorem dX5_readRow_203 : decode cX5_readRow 203 = .ok (.isub, 1) := by decide +kernel
theorem dX5_readRow_204 : decode cX5_readRow 204 = .ok (.invokevirtual 56, 3) := by decide +kernel
theorem dX5_readRow_207 : decode cX5_readRow 207 = .ok (.iload 5, 2) := by decide +kernel
theorem dX5_readRow_209 : decode cX5_readRow 209 = .ok (.iload 10, 2) := by decide +kernel
theorem dX5_readRow_211 : decode cX5_readRow 211 = .ok (.iadd, 1) := by decide +kernel
theorem dX5_readRow_212 : decode cX5_readRow 212 = .ok (.istore 5, 2) := by decide +kernel
theorem dX5_readRow_214 : decode cX5_readRow 214 = .ok (.iinc 6 1, 3) := by decide +kernel
theorem dX5_readRow_217 : decode cX5_readRow 217 = .ok (.iinc 7 1, 3) := by decide +kernel
theorem dX5_readRow_220 : decode cX5_readRow 220 = .ok (.goto (-211), 3) := by decide +kernel
theorem dX5_readRow_223 : decode cX5_readRow 223 = .ok (.iload 6, 2) := by decide +kernel
theorem dX5_readRow_225 : decode cX5_readRow 225 = .ok (.ireturn, 1) := by decide +kernel
theorem dX5_put_0 : decode cX5_put 0 = .ok (.iload_n 1, 1) := by decide +kernel
theorem dX5_put_1 : decode cX5_put 1 = .ok (.istore 4, 2) := by decide +kernel
theorem dX5_put_3 : decode cX5_put 3 = .ok (.iload 4, 2) := by decide +kernel
theorem dX5_put_5 : decode cX5_put 5 = .ok (.iload_n 1, 1) := by decide +kernel
theorem dX5_put_6 : decode cX5_put 6 = .ok (.iload_n 2, 1) := by decide +kernel
theorem dX5_put_7 : decode cX5_put 7 = .ok (.iadd, 1) := by decide +kernel
theorem dX5_put_8 : decode cX5_put 8 = .ok (.if_icmp .ge 29, 3) := by decide +kernel
theorem dX5_put_11 : decode cX5_put 11 = .ok (.iload 4, 2) := by decide +kernel
theorem dX5_put_13 : decode cX5_put 13 = .ok (.ifCond .lt 24, 3) := by decide +kernel
theorem dX5_put_16 : decode cX5_put 16 = .ok (.iload 4, 2) := by decide +kernel
theorem dX5_put_18 : decode cX5_put 18 = .ok (.bipush 64, 2) := by decide +kernel
theorem dX5_put_20 : decode cX5_put 20 = .ok (.if_icmp .ge 17, 3) := by decide +kernel
theorem dX5_put_23 : decode cX5_put 23 = .ok (.aload_n 0, 1) := by decide +kernel
theorem dX5_put_24 : decode cX5_put 24 = .ok (.getfield 15, 3) := by decide +kernel
theorem dX5_put_27 : decode cX5_put 27 = .ok (.iload 4, 2) := by decide +kernel
theorem dX5_put_29 : decode cX5_put 29 = .ok (.iload_n 3, 1) := by decide +kernel
theorem dX5_put_30 : decode cX5_put 30 = .ok (.iastore, 1) := by decide +kernel
theorem dX5_put_31 : decode cX5_put 31 = .ok (.iinc 4 1, 3) := by decide +kernel
theorem dX5_put_34 : decode cX5_put 34 = .ok (.goto (-31), 3) := by decide +kernel
theorem dX5_put_37 : decode cX5_put 37 = .ok (.return_, 1) := by decide +kernel
theorem dX5_refuse_0 : decode cX5_refuse 0 = .ok (.aload_n 0, 1) := by decide +kernel
theorem dX5_refuse_1 : decode cX5_refuse 1 = .ok (.sipush (-1000), 3) := by decide +kernel
theorem dX5_refuse_4 : decode cX5_refuse 4 = .ok (.iload_n 1, 1) := by decide +kernel
theorem dX5_refuse_5 : decode cX5_refuse 5 = .ok (.imul, 1) := by decide +kernel
theorem dX5_refuse_6 : decode cX5_refuse 6 = .ok (.iload_n 2, 1) := by decide +kernel
theorem dX5_refuse_7 : decode cX5_refuse 7 = .ok (.isub, 1) := by decide +kernel
theorem dX5_refuse_8 : decode cX5_refuse 8 = .ok (.putfield 22, 3) := by decide +kernel
theorem dX5_refuse_11 : decode cX5_refuse 11 = .ok (.iload_n 2, 1) := by decide +kernel
theorem dX5_refuse_12 : decode cX5_refuse 12 = .ok (.ireturn, 1) := by decide +kernel
theorem dX5_signAt_0 : decode cX5_signAt 0 = .ok (.iload_n 2, 1) := by decide +kernel
theorem dX5_signAt_1 : decode cX5_signAt 1 = .ok (.ifCond .lt 24, 3) := by decide +kernel
theorem dX5_signAt_4 : decode cX5_signAt 4 = .ok (.iload_n 2, 1) := by decide +kernel
theorem dX5_signAt_5 : decode cX5_signAt 5 = .ok (.iload_n 1, 1) := by decide +kernel
theorem dX5_signAt_6 : decode cX5_signAt 6 = .ok (.if_icmp .ge 19, 3) := by decide +kernel
theorem dX5_signAt_9 : decode cX5_signAt 9 = .ok (.iload_n 2, 1) := by decide +kernel
theorem dX5_signAt_10 : decode cX5_signAt 10 = .ok (.aload_n 0, 1) := by decide +kernel
theorem dX5_signAt_11 : decode cX5_signAt 11 = .ok (.arraylength, 1) := by decide +kernel
theorem dX5_signAt_12 : decode cX5_signAt 12 = .ok (.if_icmp .ge 13, 3) := by decide +kernel
theorem dX5_signAt_15 : decode cX5_signAt 15 = .ok (.aload_n 0, 1) := by decide +kernel
theorem dX5_signAt_16 : decode cX5_signAt 16 = .ok (.iload_n 2, 1) := by decide +kernel
theorem dX5_signAt_17 : decode cX5_signAt 17 = .ok (.baload, 1) := by decide +kernel
theorem dX5_signAt_18 : decode cX5_signAt 18 = .ok (.sipush 255, 3) := by decide +kernel
theorem dX5_signAt_21 : decode cX5_signAt 21 = .ok (.iand, 1) := by decide +kernel
theorem dX5_signAt_22 : decode cX5_signAt 22 = .ok (.goto 4, 3) := by decide +kernel
theorem dX5_signAt_25 : decode cX5_signAt 25 = .ok (.iconst (-1), 1) := by decide +kernel
theorem dX5_signAt_26 : decode cX5_signAt 26 = .ok (.ireturn, 1) := by decide +kernel
theorem dX5_isDigit_0 : decode cX5_isDigit 0 = .ok (.iload_n 0, 1) := by decide +kernel
theorem dX5_isDigit_1 : decode cX5_isDigit 1 = .ok (.bipush 48, 2) := by decide +kernel
theorem dX5_isDigit_3 : decode cX5_isDigit 3 = .ok (.if_icmp .lt 13, 3) := by decide +kernel
theorem dX5_isDigit_6 : decode cX5_isDigit 6 = .ok (.iload_n 0, 1) := by decide +kernel
theorem dX5_isDigit_7 : decode cX5_isDigit 7 = .ok (.bipush 57, 2) := by decide +kernel
theorem dX5_isDigit_9 : decode cX5_isDigit 9 = .ok (.if_icmp .gt 7, 3) := by decide +kernel
theorem dX5_isDigit_12 : decode cX5_isDigit 12 = .ok (.iconst 1, 1) := by decide +kernel
theorem dX5_isDigit_13 : decode cX5_isDigit 13 = .ok (.goto 4, 3) := by decide +kernel
theorem dX5_isDigit_16 : decode cX5_isDigit 16 = .ok (.iconst 0, 1) := by decide +kernel
theorem dX5_isDigit_17 : decode cX5_isDigit 17 = .ok (.ireturn, 1) := by decide +kernel
theorem dX5_push_0 : decode cX5_push 0 = .ok (.iload_n 3, 1) := by decide +kernel
theorem dX5_push_1 : decode cX5_push 1 = .ok (.iconst 1, 1) := by decide +kernel
theorem dX5_push_2 : decode cX5_push 2 = .ok (.if_icmp .ne 7, 3) := by decide +kernel
theorem dX5_push_5 : decode cX5_push 5 = .ok (.iconst 1, 1) := by decide +kernel
theorem dX5_push_6 : decode cX5_push 6 = .ok (.goto 13, 3) := by decide +kernel
theorem dX5_push_9 : decode cX5_push 9 = .ok (.iload_n 3, 1) := by decide +kernel
theorem dX5_push_10 : decode cX5_push 10 = .ok (.iconst 3, 1) := by decide +kernel
theorem dX5_push_11 : decode cX5_push 11 = .ok (.if_icmp .ne 7, 3) := by decide +kernel
theorem dX5_push_14 : decode cX5_push 14 = .ok (.iconst (-1), 1) := by decide +kernel
theorem dX5_push_15 : decode cX5_push 15 = .ok (.goto 4, 3) := by decide +kernel
theorem dX5_push_18 : decode cX5_push 18 = .ok (.iconst 0, 1) := by decide +kernel
theorem dX5_push_19 : decode cX5_push 19 = .ok (.istore 5, 2) := by decide +kernel
theorem dX5_push_21 : decode cX5_push 21 = .ok (.iload_n 3, 1) := by decide +kernel
theorem dX5_push_22 : decode cX5_push 22 = .ok (.ifCond .ne 7, 3) := by decide +kernel
theorem dX5_push_25 : decode cX5_push 25 = .ok (.iconst 1, 1) := by decide +kernel
theorem dX5_push_26 : decode cX5_push 26 = .ok (.goto 13, 3) := by decide +kernel
theorem dX5_push_29 : decode cX5_push 29 = .ok (.iload_n 3, 1) := by decide +kernel
theorem dX5_push_30 : decode cX5_push 30 = .ok (.iconst 2, 1) := by decide +kernel
theorem dX5_push_31 : decode cX5_push 31 = .ok (.if_icmp .ne 7, 3) := by decide +kernel
theorem dX5_push_34 : decode cX5_push 34 = .ok (.iconst (-1), 1) := by decide +kernel
theorem dX5_push_35 : decode cX5_push 35 = .ok (.goto 4, 3) := by decide +kernel
theorem dX5_push_38 : decode cX5_push 38 = .ok (.iconst 0, 1) := by decide +kernel
theorem dX5_push_39 : decode cX5_push 39 = .ok (.istore 6, 2) := by decide +kernel
theorem dX5_push_41 : decode cX5_push 41 = .ok (.iload_n 1, 1) := by decide +kernel
theorem dX5_push_42 : decode cX5_push 42 = .ok (.istore 7, 2) := by decide +kernel
theorem dX5_push_44 : decode cX5_push 44 = .ok (.iload_n 2, 1) := by decide +kernel
theorem dX5_push_45 : decode cX5_push 45 = .ok (.istore 8, 2) := by decide +kernel
theorem dX5_push_47 : decode cX5_push 47 = .ok (.iload 4, 2) := by decide +kernel
theorem dX5_push_49 : decode cX5_push 49 = .ok (.istore 9, 2) := by decide +kernel
theorem dX5_push_51 : decode cX5_push 51 = .ok (.aload_n 0, 1) := by decide +kernel
theorem dX5_push_52 : decode cX5_push 52 = .ok (.iconst 0, 1) := by decide +kernel
theorem dX5_push_53 : decode cX5_push 53 = .ok (.putfield 60, 3) := by decide +kernel
theorem dX5_push_56 : decode cX5_push 56 = .ok (.iconst 0, 1) := by decide +kernel
theorem dX5_push_57 : decode cX5_push 57 = .ok (.istore 10, 2) := by decide +kernel
theorem dX5_push_59 : decode cX5_push 59 = .ok (.iload 10, 2) := by decide +kernel
theorem dX5_push_61 : decode cX5_push 61 = .ok (.bipush 8, 2) := by decide +kernel
theorem dX5_push_63 : decode cX5_push 63 = .ok (.if_icmp .ge 91, 3) := by decide +kernel
theorem dX5_push_66 : decode cX5_push 66 = .ok (.iload 9, 2) := by decide +kernel
theorem dX5_push_68 : decode cX5_push 68 = .ok (.ifCond .le 86, 3) := by decide +kernel
theorem dX5_push_71 : decode cX5_push 71 = .ok (.aload_n 0, 1) := by decide +kernel
theorem dX5_push_72 : decode cX5_push 72 = .ok (.bipush 8, 2) := by decide +kernel
theorem dX5_push_74 : decode cX5_push 74 = .ok (.iload 8, 2) := by decide +kernel
theorem dX5_push_76 : decode cX5_push 76 = .ok (.imul, 1) := by decide +kernel
theorem dX5_push_77 : decode cX5_push 77 = .ok (.iload 7, 2) := by decide +kernel
theorem dX5_push_79 : decode cX5_push 79 = .ok (.iadd, 1) := by decide +kernel
theorem dX5_push_80 : decode cX5_push 80 = .ok (.invokevirtual 63, 3) := by decide +kernel
theorem dX5_push_83 : decode cX5_push 83 = .ok (.istore 11, 2) := by decide +kernel
theorem dX5_push_85 : decode cX5_push 85 = .ok (.iload 7, 2) := by decide +kernel
theorem dX5_push_87 : decode cX5_push 87 = .ok (.iload 5, 2) := by decide +kernel
theorem dX5_push_89 : decode cX5_push 89 = .ok (.iadd, 1) := by decide +kernel
theorem dX5_push_90 : decode cX5_push 90 = .ok (.istore 7, 2) := by decide +kernel
theorem dX5_push_92 : decode cX5_push 92 = .ok (.iload 8, 2) := by decide +kernel
