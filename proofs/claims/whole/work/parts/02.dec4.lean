theorem dX10_end_20 : decode cX10_end 20 = .ok (.istore_n 3, 1) := by decide +kernel
theorem dX10_end_21 : decode cX10_end 21 = .ok (.iconst 0, 1) := by decide +kernel
theorem dX10_end_22 : decode cX10_end 22 = .ok (.istore 4, 2) := by decide +kernel
theorem dX10_end_24 : decode cX10_end 24 = .ok (.iload 4, 2) := by decide +kernel
theorem dX10_end_26 : decode cX10_end 26 = .ok (.aload_n 0, 1) := by decide +kernel
theorem dX10_end_27 : decode cX10_end 27 = .ok (.getfield 81, 3) := by decide +kernel
theorem dX10_end_30 : decode cX10_end 30 = .ok (.if_icmp .ge 46, 3) := by decide +kernel
theorem dX10_end_33 : decode cX10_end 33 = .ok (.iload_n 2, 1) := by decide +kernel
theorem dX10_end_34 : decode cX10_end 34 = .ok (.iload 4, 2) := by decide +kernel
theorem dX10_end_36 : decode cX10_end 36 = .ok (.aload_n 0, 1) := by decide +kernel
theorem dX10_end_37 : decode cX10_end 37 = .ok (.getfield 16, 3) := by decide +kernel
theorem dX10_end_40 : decode cX10_end 40 = .ok (.iload 4, 2) := by decide +kernel
theorem dX10_end_42 : decode cX10_end 42 = .ok (.iaload, 1) := by decide +kernel
theorem dX10_end_43 : decode cX10_end 43 = .ok (.iconst 1, 1) := by decide +kernel
theorem dX10_end_44 : decode cX10_end 44 = .ok (.iadd, 1) := by decide +kernel
theorem dX10_end_45 : decode cX10_end 45 = .ok (.imul, 1) := by decide +kernel
theorem dX10_end_46 : decode cX10_end 46 = .ok (.iadd, 1) := by decide +kernel
theorem dX10_end_47 : decode cX10_end 47 = .ok (.istore_n 2, 1) := by decide +kernel
theorem dX10_end_48 : decode cX10_end 48 = .ok (.iload_n 3, 1) := by decide +kernel
theorem dX10_end_49 : decode cX10_end 49 = .ok (.aload_n 0, 1) := by decide +kernel
theorem dX10_end_50 : decode cX10_end 50 = .ok (.getfield 81, 3) := by decide +kernel
theorem dX10_end_53 : decode cX10_end 53 = .ok (.iconst 1, 1) := by decide +kernel
theorem dX10_end_54 : decode cX10_end 54 = .ok (.isub, 1) := by decide +kernel
theorem dX10_end_55 : decode cX10_end 55 = .ok (.iload 4, 2) := by decide +kernel
theorem dX10_end_57 : decode cX10_end 57 = .ok (.isub, 1) := by decide +kernel
theorem dX10_end_58 : decode cX10_end 58 = .ok (.aload_n 0, 1) := by decide +kernel
theorem dX10_end_59 : decode cX10_end 59 = .ok (.getfield 16, 3) := by decide +kernel
theorem dX10_end_62 : decode cX10_end 62 = .ok (.iload 4, 2) := by decide +kernel
theorem dX10_end_64 : decode cX10_end 64 = .ok (.iaload, 1) := by decide +kernel
theorem dX10_end_65 : decode cX10_end 65 = .ok (.iconst 1, 1) := by decide +kernel
theorem dX10_end_66 : decode cX10_end 66 = .ok (.iadd, 1) := by decide +kernel
theorem dX10_end_67 : decode cX10_end 67 = .ok (.imul, 1) := by decide +kernel
theorem dX10_end_68 : decode cX10_end 68 = .ok (.iadd, 1) := by decide +kernel
theorem dX10_end_69 : decode cX10_end 69 = .ok (.istore_n 3, 1) := by decide +kernel
theorem dX10_end_70 : decode cX10_end 70 = .ok (.iinc 4 1, 3) := by decide +kernel
theorem dX10_end_73 : decode cX10_end 73 = .ok (.goto (-49), 3) := by decide +kernel
theorem dX10_end_76 : decode cX10_end 76 = .ok (.iload_n 1, 1) := by decide +kernel
theorem dX10_end_77 : decode cX10_end 77 = .ok (.ifCond .ne 16, 3) := by decide +kernel
theorem dX10_end_80 : decode cX10_end 80 = .ok (.iload_n 3, 1) := by decide +kernel
theorem dX10_end_81 : decode cX10_end 81 = .ok (.iload_n 2, 1) := by decide +kernel
theorem dX10_end_82 : decode cX10_end 82 = .ok (.if_icmp .ge 7, 3) := by decide +kernel
theorem dX10_end_85 : decode cX10_end 85 = .ok (.iconst 1, 1) := by decide +kernel
theorem dX10_end_86 : decode cX10_end 86 = .ok (.goto 17, 3) := by decide +kernel
theorem dX10_end_89 : decode cX10_end 89 = .ok (.iconst 0, 1) := by decide +kernel
theorem dX10_end_90 : decode cX10_end 90 = .ok (.goto 13, 3) := by decide +kernel
theorem dX10_end_93 : decode cX10_end 93 = .ok (.iload_n 3, 1) := by decide +kernel
theorem dX10_end_94 : decode cX10_end 94 = .ok (.iload_n 2, 1) := by decide +kernel
theorem dX10_end_95 : decode cX10_end 95 = .ok (.if_icmp .ge 7, 3) := by decide +kernel
theorem dX10_end_98 : decode cX10_end 98 = .ok (.iload_n 3, 1) := by decide +kernel
theorem dX10_end_99 : decode cX10_end 99 = .ok (.goto 4, 3) := by decide +kernel
theorem dX10_end_102 : decode cX10_end 102 = .ok (.iload_n 2, 1) := by decide +kernel
theorem dX10_end_103 : decode cX10_end 103 = .ok (.ireturn, 1) := by decide +kernel
theorem dX10_leastOf_0 : decode cX10_leastOf 0 = .ok (.iload_n 0, 1) := by decide +kernel
theorem dX10_leastOf_1 : decode cX10_leastOf 1 = .ok (.ifCond .ne 9, 3) := by decide +kernel
theorem dX10_leastOf_4 : decode cX10_leastOf 4 = .ok (.ldc2_w 337, 3) := by decide +kernel
theorem dX10_leastOf_7 : decode cX10_leastOf 7 = .ok (.goto 17, 3) := by decide +kernel
theorem dX10_leastOf_10 : decode cX10_leastOf 10 = .ok (.iload_n 0, 1) := by decide +kernel
theorem dX10_leastOf_11 : decode cX10_leastOf 11 = .ok (.iconst 1, 1) := by decide +kernel
theorem dX10_leastOf_12 : decode cX10_leastOf 12 = .ok (.if_icmp .ne 9, 3) := by decide +kernel
theorem dX10_leastOf_15 : decode cX10_leastOf 15 = .ok (.ldc2_w 339, 3) := by decide +kernel
theorem dX10_leastOf_18 : decode cX10_leastOf 18 = .ok (.goto 6, 3) := by decide +kernel
theorem dX10_leastOf_21 : decode cX10_leastOf 21 = .ok (.ldc2_w 341, 3) := by decide +kernel
theorem dX10_leastOf_24 : decode cX10_leastOf 24 = .ok (.lreturn, 1) := by decide +kernel
theorem dX10_isSkipped_0 : decode cX10_isSkipped 0 = .ok (.aload_n 0, 1) := by decide +kernel
theorem dX10_isSkipped_1 : decode cX10_isSkipped 1 = .ok (.getfield 41, 3) := by decide +kernel
theorem dX10_isSkipped_4 : decode cX10_isSkipped 4 = .ok (.bipush 100, 2) := by decide +kernel
theorem dX10_isSkipped_6 : decode cX10_isSkipped 6 = .ok (.iload_n 1, 1) := by decide +kernel
theorem dX10_isSkipped_7 : decode cX10_isSkipped 7 = .ok (.imul, 1) := by decide +kernel
theorem dX10_isSkipped_8 : decode cX10_isSkipped 8 = .ok (.iload_n 2, 1) := by decide +kernel
theorem dX10_isSkipped_9 : decode cX10_isSkipped 9 = .ok (.iadd, 1) := by decide +kernel
theorem dX10_isSkipped_10 : decode cX10_isSkipped 10 = .ok (.laload, 1) := by decide +kernel
theorem dX10_isSkipped_11 : decode cX10_isSkipped 11 = .ok (.aload_n 0, 1) := by decide +kernel
theorem dX10_isSkipped_12 : decode cX10_isSkipped 12 = .ok (.getfield 35, 3) := by decide +kernel
theorem dX10_isSkipped_15 : decode cX10_isSkipped 15 = .ok (.iload_n 1, 1) := by decide +kernel
theorem dX10_isSkipped_16 : decode cX10_isSkipped 16 = .ok (.iaload, 1) := by decide +kernel
theorem dX10_isSkipped_17 : decode cX10_isSkipped 17 = .ok (.invokestatic 343, 3) := by decide +kernel
theorem dX10_isSkipped_20 : decode cX10_isSkipped 20 = .ok (.lcmp, 1) := by decide +kernel
theorem dX10_isSkipped_21 : decode cX10_isSkipped 21 = .ok (.ifCond .ne 7, 3) := by decide +kernel
theorem dX10_isSkipped_24 : decode cX10_isSkipped 24 = .ok (.iconst 1, 1) := by decide +kernel
theorem dX10_isSkipped_25 : decode cX10_isSkipped 25 = .ok (.goto 4, 3) := by decide +kernel
theorem dX10_isSkipped_28 : decode cX10_isSkipped 28 = .ok (.iconst 0, 1) := by decide +kernel
theorem dX10_isSkipped_29 : decode cX10_isSkipped 29 = .ok (.ireturn, 1) := by decide +kernel
theorem dX10_isWornRow_0 : decode cX10_isWornRow 0 = .ok (.iconst 1, 1) := by decide +kernel
theorem dX10_isWornRow_1 : decode cX10_isWornRow 1 = .ok (.istore 4, 2) := by decide +kernel
theorem dX10_isWornRow_3 : decode cX10_isWornRow 3 = .ok (.aload_n 0, 1) := by decide +kernel
theorem dX10_isWornRow_4 : decode cX10_isWornRow 4 = .ok (.iload_n 3, 1) := by decide +kernel
theorem dX10_isWornRow_5 : decode cX10_isWornRow 5 = .ok (.invokevirtual 204, 3) := by decide +kernel
theorem dX10_isWornRow_8 : decode cX10_isWornRow 8 = .ok (.iconst 0, 1) := by decide +kernel
theorem dX10_isWornRow_9 : decode cX10_isWornRow 9 = .ok (.istore 5, 2) := by decide +kernel
theorem dX10_isWornRow_11 : decode cX10_isWornRow 11 = .ok (.iload 5, 2) := by decide +kernel
theorem dX10_isWornRow_13 : decode cX10_isWornRow 13 = .ok (.aload_n 0, 1) := by decide +kernel
theorem dX10_isWornRow_14 : decode cX10_isWornRow 14 = .ok (.getfield 38, 3) := by decide +kernel
theorem dX10_isWornRow_17 : decode cX10_isWornRow 17 = .ok (.iload_n 1, 1) := by decide +kernel
theorem dX10_isWornRow_18 : decode cX10_isWornRow 18 = .ok (.iaload, 1) := by decide +kernel
theorem dX10_isWornRow_19 : decode cX10_isWornRow 19 = .ok (.if_icmp .ge 59, 3) := by decide +kernel
theorem dX10_isWornRow_22 : decode cX10_isWornRow 22 = .ok (.iload 4, 2) := by decide +kernel
theorem dX10_isWornRow_24 : decode cX10_isWornRow 24 = .ok (.ifCond .eq 54, 3) := by decide +kernel
theorem dX10_isWornRow_27 : decode cX10_isWornRow 27 = .ok (.aload_n 0, 1) := by decide +kernel
theorem dX10_isWornRow_28 : decode cX10_isWornRow 28 = .ok (.iload_n 1, 1) := by decide +kernel
theorem dX10_isWornRow_29 : decode cX10_isWornRow 29 = .ok (.iload 5, 2) := by decide +kernel
theorem dX10_isWornRow_31 : decode cX10_isWornRow 31 = .ok (.invokevirtual 347, 3) := by decide +kernel
theorem dX10_isWornRow_34 : decode cX10_isWornRow 34 = .ok (.ifCond .ne 26, 3) := by decide +kernel
theorem dX10_isWornRow_37 : decode cX10_isWornRow 37 = .ok (.aload_n 0, 1) := by decide +kernel
theorem dX10_isWornRow_38 : decode cX10_isWornRow 38 = .ok (.getfield 41, 3) := by decide +kernel
theorem dX10_isWornRow_41 : decode cX10_isWornRow 41 = .ok (.bipush 100, 2) := by decide +kernel
theorem dX10_isWornRow_43 : decode cX10_isWornRow 43 = .ok (.iload_n 1, 1) := by decide +kernel
theorem dX10_isWornRow_44 : decode cX10_isWornRow 44 = .ok (.imul, 1) := by decide +kernel
theorem dX10_isWornRow_45 : decode cX10_isWornRow 45 = .ok (.iload 5, 2) := by decide +kernel
theorem dX10_isWornRow_47 : decode cX10_isWornRow 47 = .ok (.iadd, 1) := by decide +kernel
theorem dX10_isWornRow_48 : decode cX10_isWornRow 48 = .ok (.laload, 1) := by decide +kernel
theorem dX10_isWornRow_49 : decode cX10_isWornRow 49 = .ok (.aload_n 0, 1) := by decide +kernel
theorem dX10_isWornRow_50 : decode cX10_isWornRow 50 = .ok (.getfield 16, 3) := by decide +kernel
theorem dX10_isWornRow_53 : decode cX10_isWornRow 53 = .ok (.iload_n 2, 1) := by decide +kernel
theorem dX10_isWornRow_54 : decode cX10_isWornRow 54 = .ok (.iaload, 1) := by decide +kernel
theorem dX10_isWornRow_55 : decode cX10_isWornRow 55 = .ok (.i2l, 1) := by decide +kernel
theorem dX10_isWornRow_56 : decode cX10_isWornRow 56 = .ok (.lcmp, 1) := by decide +kernel
theorem dX10_isWornRow_57 : decode cX10_isWornRow 57 = .ok (.ifCond .ne 7, 3) := by decide +kernel
theorem dX10_isWornRow_60 : decode cX10_isWornRow 60 = .ok (.iconst 1, 1) := by decide +kernel
theorem dX10_isWornRow_61 : decode cX10_isWornRow 61 = .ok (.goto 4, 3) := by decide +kernel
theorem dX10_isWornRow_64 : decode cX10_isWornRow 64 = .ok (.iconst 0, 1) := by decide +kernel
theorem dX10_isWornRow_65 : decode cX10_isWornRow 65 = .ok (.istore 4, 2) := by decide +kernel
theorem dX10_isWornRow_67 : decode cX10_isWornRow 67 = .ok (.aload_n 0, 1) := by decide +kernel
theorem dX10_isWornRow_68 : decode cX10_isWornRow 68 = .ok (.invokevirtual 134, 3) := by decide +kernel
theorem dX10_isWornRow_71 : decode cX10_isWornRow 71 = .ok (.pop, 1) := by decide +kernel
theorem dX10_isWornRow_72 : decode cX10_isWornRow 72 = .ok (.iinc 5 1, 3) := by decide +kernel
theorem dX10_isWornRow_75 : decode cX10_isWornRow 75 = .ok (.goto (-64), 3) := by decide +kernel
theorem dX10_isWornRow_78 : decode cX10_isWornRow 78 = .ok (.aload_n 0, 1) := by decide +kernel
theorem dX10_isWornRow_79 : decode cX10_isWornRow 79 = .ok (.invokevirtual 231, 3) := by decide +kernel
theorem dX10_isWornRow_82 : decode cX10_isWornRow 82 = .ok (.iload 4, 2) := by decide +kernel
theorem dX10_isWornRow_84 : decode cX10_isWornRow 84 = .ok (.ireturn, 1) := by decide +kernel
theorem dX10_whatIs_0 : decode cX10_whatIs 0 = .ok (.aload_n 0, 1) := by decide +kernel
theorem dX10_whatIs_1 : decode cX10_whatIs 1 = .ok (.iconst 0, 1) := by decide +kernel
theorem dX10_whatIs_2 : decode cX10_whatIs 2 = .ok (.putfield 78, 3) := by decide +kernel
theorem dX10_whatIs_5 : decode cX10_whatIs 5 = .ok (.aload_n 0, 1) := by decide +kernel
theorem dX10_whatIs_6 : decode cX10_whatIs 6 = .ok (.iload_n 2, 1) := by decide +kernel
theorem dX10_whatIs_7 : decode cX10_whatIs 7 = .ok (.invokevirtual 193, 3) := by decide +kernel
theorem dX10_whatIs_10 : decode cX10_whatIs 10 = .ok (.ifCond .eq 21, 3) := by decide +kernel
theorem dX10_whatIs_13 : decode cX10_whatIs 13 = .ok (.iload_n 3, 1) := by decide +kernel
theorem dX10_whatIs_14 : decode cX10_whatIs 14 = .ok (.i2l, 1) := by decide +kernel
theorem dX10_whatIs_15 : decode cX10_whatIs 15 = .ok (.lconst 0, 1) := by decide +kernel
theorem dX10_whatIs_16 : decode cX10_whatIs 16 = .ok (.lconst 1, 1) := by decide +kernel
theorem dX10_whatIs_17 : decode cX10_whatIs 17 = .ok (.invokestatic 84, 3) := by decide +kernel
theorem dX10_whatIs_20 : decode cX10_whatIs 20 = .ok (.ifCond .eq 11, 3) := by decide +kernel
theorem dX10_whatIs_23 : decode cX10_whatIs 23 = .ok (.aload_n 0, 1) := by decide +kernel
theorem dX10_whatIs_24 : decode cX10_whatIs 24 = .ok (.iload_n 1, 1) := by decide +kernel
theorem dX10_whatIs_25 : decode cX10_whatIs 25 = .ok (.invokevirtual 219, 3) := by decide +kernel
theorem dX10_whatIs_28 : decode cX10_whatIs 28 = .ok (.goto 4, 3) := by decide +kernel
theorem dX10_whatIs_31 : decode cX10_whatIs 31 = .ok (.iconst (-1), 1) := by decide +kernel
theorem dX10_whatIs_32 : decode cX10_whatIs 32 = .ok (.istore 4, 2) := by decide +kernel
theorem dX10_whatIs_34 : decode cX10_whatIs 34 = .ok (.iload 4, 2) := by decide +kernel
theorem dX10_whatIs_36 : decode cX10_whatIs 36 = .ok (.ifCond .ge 6, 3) := by decide +kernel
theorem dX10_whatIs_39 : decode cX10_whatIs 39 = .ok (.iload 4, 2) := by decide +kernel
theorem dX10_whatIs_41 : decode cX10_whatIs 41 = .ok (.ireturn, 1) := by decide +kernel
theorem dX10_whatIs_42 : decode cX10_whatIs 42 = .ok (.iconst 0, 1) := by decide +kernel
theorem dX10_whatIs_43 : decode cX10_whatIs 43 = .ok (.istore 5, 2) := by decide +kernel
theorem dX10_whatIs_45 : decode cX10_whatIs 45 = .ok (.aload_n 0, 1) := by decide +kernel
theorem dX10_whatIs_46 : decode cX10_whatIs 46 = .ok (.invokevirtual 225, 3) := by decide +kernel
theorem dX10_whatIs_49 : decode cX10_whatIs 49 = .ok (.iconst 0, 1) := by decide +kernel
theorem dX10_whatIs_50 : decode cX10_whatIs 50 = .ok (.istore 6, 2) := by decide +kernel
theorem dX10_whatIs_52 : decode cX10_whatIs 52 = .ok (.iload 6, 2) := by decide +kernel
theorem dX10_whatIs_54 : decode cX10_whatIs 54 = .ok (.iload_n 3, 1) := by decide +kernel
theorem dX10_whatIs_55 : decode cX10_whatIs 55 = .ok (.ifCond .ne 8, 3) := by decide +kernel
theorem dX10_whatIs_58 : decode cX10_whatIs 58 = .ok (.bipush 8, 2) := by decide +kernel
theorem dX10_whatIs_60 : decode cX10_whatIs 60 = .ok (.goto 5, 3) := by decide +kernel
theorem dX10_whatIs_63 : decode cX10_whatIs 63 = .ok (.bipush 10, 2) := by decide +kernel
theorem dX10_whatIs_65 : decode cX10_whatIs 65 = .ok (.if_icmp .ge 75, 3) := by decide +kernel
theorem dX10_whatIs_68 : decode cX10_whatIs 68 = .ok (.aload_n 0, 1) := by decide +kernel
theorem dX10_whatIs_69 : decode cX10_whatIs 69 = .ok (.getfield 7, 3) := by decide +kernel
theorem dX10_whatIs_72 : decode cX10_whatIs 72 = .ok (.iload_n 2, 1) := by decide +kernel
theorem dX10_whatIs_73 : decode cX10_whatIs 73 = .ok (.iload_n 3, 1) := by decide +kernel
theorem dX10_whatIs_74 : decode cX10_whatIs 74 = .ok (.ifCond .ne 8, 3) := by decide +kernel
theorem dX10_whatIs_77 : decode cX10_whatIs 77 = .ok (.iload 6, 2) := by decide +kernel
theorem dX10_whatIs_79 : decode cX10_whatIs 79 = .ok (.goto 9, 3) := by decide +kernel
theorem dX10_whatIs_82 : decode cX10_whatIs 82 = .ok (.aload_n 0, 1) := by decide +kernel
theorem dX10_whatIs_83 : decode cX10_whatIs 83 = .ok (.getfield 7, 3) := by decide +kernel
theorem dX10_whatIs_86 : decode cX10_whatIs 86 = .ok (.iload_n 2, 1) := by decide +kernel
theorem dX10_whatIs_87 : decode cX10_whatIs 87 = .ok (.iaload, 1) := by decide +kernel
theorem dX10_whatIs_88 : decode cX10_whatIs 88 = .ok (.iastore, 1) := by decide +kernel
theorem dX10_whatIs_89 : decode cX10_whatIs 89 = .ok (.aload_n 0, 1) := by decide +kernel
theorem dX10_whatIs_90 : decode cX10_whatIs 90 = .ok (.getfield 13, 3) := by decide +kernel
theorem dX10_whatIs_93 : decode cX10_whatIs 93 = .ok (.iload_n 2, 1) := by decide +kernel
theorem dX10_whatIs_94 : decode cX10_whatIs 94 = .ok (.iload_n 3, 1) := by decide +kernel
theorem dX10_whatIs_95 : decode cX10_whatIs 95 = .ok (.iconst 1, 1) := by decide +kernel
theorem dX10_whatIs_96 : decode cX10_whatIs 96 = .ok (.if_icmp .ne 8, 3) := by decide +kernel
theorem dX10_whatIs_99 : decode cX10_whatIs 99 = .ok (.iload 6, 2) := by decide +kernel
theorem dX10_whatIs_101 : decode cX10_whatIs 101 = .ok (.goto 9, 3) := by decide +kernel
theorem dX10_whatIs_104 : decode cX10_whatIs 104 = .ok (.aload_n 0, 1) := by decide +kernel
theorem dX10_whatIs_105 : decode cX10_whatIs 105 = .ok (.getfield 13, 3) := by decide +kernel
theorem dX10_whatIs_108 : decode cX10_whatIs 108 = .ok (.iload_n 2, 1) := by decide +kernel
theorem dX10_whatIs_109 : decode cX10_whatIs 109 = .ok (.iaload, 1) := by decide +kernel
theorem dX10_whatIs_110 : decode cX10_whatIs 110 = .ok (.iastore, 1) := by decide +kernel
theorem dX10_whatIs_111 : decode cX10_whatIs 111 = .ok (.iload 5, 2) := by decide +kernel
theorem dX10_whatIs_113 : decode cX10_whatIs 113 = .ok (.aload_n 0, 1) := by decide +kernel
theorem dX10_whatIs_114 : decode cX10_whatIs 114 = .ok (.iload_n 1, 1) := by decide +kernel
theorem dX10_whatIs_115 : decode cX10_whatIs 115 = .ok (.iload_n 2, 1) := by decide +kernel
theorem dX10_whatIs_116 : decode cX10_whatIs 116 = .ok (.iconst 0, 1) := by decide +kernel
theorem dX10_whatIs_117 : decode cX10_whatIs 117 = .ok (.invokevirtual 350, 3) := by decide +kernel
theorem dX10_whatIs_120 : decode cX10_whatIs 120 = .ok (.ifCond .eq 10, 3) := by decide +kernel
theorem dX10_whatIs_123 : decode cX10_whatIs 123 = .ok (.iconst 1, 1) := by decide +kernel
theorem dX10_whatIs_124 : decode cX10_whatIs 124 = .ok (.iload 6, 2) := by decide +kernel
theorem dX10_whatIs_126 : decode cX10_whatIs 126 = .ok (.ishl, 1) := by decide +kernel
theorem dX10_whatIs_127 : decode cX10_whatIs 127 = .ok (.goto 4, 3) := by decide +kernel
theorem dX10_whatIs_130 : decode cX10_whatIs 130 = .ok (.iconst 0, 1) := by decide +kernel
theorem dX10_whatIs_131 : decode cX10_whatIs 131 = .ok (.ior, 1) := by decide +kernel
theorem dX10_whatIs_132 : decode cX10_whatIs 132 = .ok (.istore 5, 2) := by decide +kernel
theorem dX10_whatIs_134 : decode cX10_whatIs 134 = .ok (.iinc 6 1, 3) := by decide +kernel
theorem dX10_whatIs_137 : decode cX10_whatIs 137 = .ok (.goto (-85), 3) := by decide +kernel
theorem dX10_whatIs_140 : decode cX10_whatIs 140 = .ok (.iload 5, 2) := by decide +kernel
theorem dX10_whatIs_142 : decode cX10_whatIs 142 = .ok (.ireturn, 1) := by decide +kernel
theorem dX10_wornFrom_0 : decode cX10_wornFrom 0 = .ok (.aload_n 0, 1) := by decide +kernel
theorem dX10_wornFrom_1 : decode cX10_wornFrom 1 = .ok (.iconst 0, 1) := by decide +kernel
theorem dX10_wornFrom_2 : decode cX10_wornFrom 2 = .ok (.putfield 78, 3) := by decide +kernel
theorem dX10_wornFrom_5 : decode cX10_wornFrom 5 = .ok (.aload_n 0, 1) := by decide +kernel
theorem dX10_wornFrom_6 : decode cX10_wornFrom 6 = .ok (.iload_n 2, 1) := by decide +kernel
theorem dX10_wornFrom_7 : decode cX10_wornFrom 7 = .ok (.invokevirtual 193, 3) := by decide +kernel
theorem dX10_wornFrom_10 : decode cX10_wornFrom 10 = .ok (.ifCond .eq 23, 3) := by decide +kernel
theorem dX10_wornFrom_13 : decode cX10_wornFrom 13 = .ok (.iload_n 3, 1) := by decide +kernel
theorem dX10_wornFrom_14 : decode cX10_wornFrom 14 = .ok (.i2l, 1) := by decide +kernel
theorem dX10_wornFrom_15 : decode cX10_wornFrom 15 = .ok (.lconst 0, 1) := by decide +kernel
theorem dX10_wornFrom_16 : decode cX10_wornFrom 16 = .ok (.ldc2_w 267, 3) := by decide +kernel
theorem dX10_wornFrom_19 : decode cX10_wornFrom 19 = .ok (.invokestatic 84, 3) := by decide +kernel
theorem dX10_wornFrom_22 : decode cX10_wornFrom 22 = .ok (.ifCond .eq 11, 3) := by decide +kernel
theorem dX10_wornFrom_25 : decode cX10_wornFrom 25 = .ok (.aload_n 0, 1) := by decide +kernel
theorem dX10_wornFrom_26 : decode cX10_wornFrom 26 = .ok (.iload_n 1, 1) := by decide +kernel
theorem dX10_wornFrom_27 : decode cX10_wornFrom 27 = .ok (.invokevirtual 219, 3) := by decide +kernel
theorem dX10_wornFrom_30 : decode cX10_wornFrom 30 = .ok (.goto 4, 3) := by decide +kernel
theorem dX10_wornFrom_33 : decode cX10_wornFrom 33 = .ok (.iconst (-1), 1) := by decide +kernel
theorem dX10_wornFrom_34 : decode cX10_wornFrom 34 = .ok (.istore 4, 2) := by decide +kernel
theorem dX10_wornFrom_36 : decode cX10_wornFrom 36 = .ok (.iload 4, 2) := by decide +kernel
theorem dX10_wornFrom_38 : decode cX10_wornFrom 38 = .ok (.ifCond .ge 6, 3) := by decide +kernel
theorem dX10_wornFrom_41 : decode cX10_wornFrom 41 = .ok (.iload 4, 2) := by decide +kernel
theorem dX10_wornFrom_43 : decode cX10_wornFrom 43 = .ok (.ireturn, 1) := by decide +kernel
theorem dX10_wornFrom_44 : decode cX10_wornFrom 44 = .ok (.iconst 0, 1) := by decide +kernel
theorem dX10_wornFrom_45 : decode cX10_wornFrom 45 = .ok (.istore 5, 2) := by decide +kernel
theorem dX10_wornFrom_47 : decode cX10_wornFrom 47 = .ok (.bipush (-4), 2) := by decide +kernel
theorem dX10_wornFrom_49 : decode cX10_wornFrom 49 = .ok (.istore 6, 2) := by decide +kernel
theorem dX10_wornFrom_51 : decode cX10_wornFrom 51 = .ok (.bipush (-4), 2) := by decide +kernel
theorem dX10_wornFrom_53 : decode cX10_wornFrom 53 = .ok (.istore 7, 2) := by decide +kernel
theorem dX10_wornFrom_55 : decode cX10_wornFrom 55 = .ok (.aload_n 0, 1) := by decide +kernel
theorem dX10_wornFrom_56 : decode cX10_wornFrom 56 = .ok (.invokevirtual 225, 3) := by decide +kernel
theorem dX10_wornFrom_59 : decode cX10_wornFrom 59 = .ok (.iconst 0, 1) := by decide +kernel
theorem dX10_wornFrom_60 : decode cX10_wornFrom 60 = .ok (.istore 8, 2) := by decide +kernel
theorem dX10_wornFrom_62 : decode cX10_wornFrom 62 = .ok (.iload 8, 2) := by decide +kernel
theorem dX10_wornFrom_64 : decode cX10_wornFrom 64 = .ok (.bipush 100, 2) := by decide +kernel
theorem dX10_wornFrom_66 : decode cX10_wornFrom 66 = .ok (.if_icmp .ge 74, 3) := by decide +kernel
theorem dX10_wornFrom_69 : decode cX10_wornFrom 69 = .ok (.aload_n 0, 1) := by decide +kernel
theorem dX10_wornFrom_70 : decode cX10_wornFrom 70 = .ok (.getfield 16, 3) := by decide +kernel
theorem dX10_wornFrom_73 : decode cX10_wornFrom 73 = .ok (.iload_n 2, 1) := by decide +kernel
theorem dX10_wornFrom_74 : decode cX10_wornFrom 74 = .ok (.iload 8, 2) := by decide +kernel
theorem dX10_wornFrom_76 : decode cX10_wornFrom 76 = .ok (.iastore, 1) := by decide +kernel
theorem dX10_wornFrom_77 : decode cX10_wornFrom 77 = .ok (.aload_n 0, 1) := by decide +kernel
theorem dX10_wornFrom_78 : decode cX10_wornFrom 78 = .ok (.iload_n 1, 1) := by decide +kernel
theorem dX10_wornFrom_79 : decode cX10_wornFrom 79 = .ok (.iload_n 2, 1) := by decide +kernel
theorem dX10_wornFrom_80 : decode cX10_wornFrom 80 = .ok (.iconst 1, 1) := by decide +kernel
theorem dX10_wornFrom_81 : decode cX10_wornFrom 81 = .ok (.invokevirtual 350, 3) := by decide +kernel
theorem dX10_wornFrom_84 : decode cX10_wornFrom 84 = .ok (.istore 9, 2) := by decide +kernel
theorem dX10_wornFrom_86 : decode cX10_wornFrom 86 = .ok (.iload 5, 2) := by decide +kernel
theorem dX10_wornFrom_88 : decode cX10_wornFrom 88 = .ok (.iload 9, 2) := by decide +kernel
theorem dX10_wornFrom_90 : decode cX10_wornFrom 90 = .ok (.ifCond .eq 7, 3) := by decide +kernel
theorem dX10_wornFrom_93 : decode cX10_wornFrom 93 = .ok (.iconst 1, 1) := by decide +kernel
theorem dX10_wornFrom_94 : decode cX10_wornFrom 94 = .ok (.goto 4, 3) := by decide +kernel
theorem dX10_wornFrom_97 : decode cX10_wornFrom 97 = .ok (.iconst 0, 1) := by decide +kernel
theorem dX10_wornFrom_98 : decode cX10_wornFrom 98 = .ok (.iadd, 1) := by decide +kernel
theorem dX10_wornFrom_99 : decode cX10_wornFrom 99 = .ok (.istore 5, 2) := by decide +kernel
theorem dX10_wornFrom_101 : decode cX10_wornFrom 101 = .ok (.iload 9, 2) := by decide +kernel
theorem dX10_wornFrom_103 : decode cX10_wornFrom 103 = .ok (.ifCond .eq 13, 3) := by decide +kernel
theorem dX10_wornFrom_106 : decode cX10_wornFrom 106 = .ok (.iload 6, 2) := by decide +kernel
theorem dX10_wornFrom_108 : decode cX10_wornFrom 108 = .ok (.ifCond .ge 8, 3) := by decide +kernel
theorem dX10_wornFrom_111 : decode cX10_wornFrom 111 = .ok (.iload 8, 2) := by decide +kernel
theorem dX10_wornFrom_113 : decode cX10_wornFrom 113 = .ok (.goto 5, 3) := by decide +kernel
theorem dX10_wornFrom_116 : decode cX10_wornFrom 116 = .ok (.iload 6, 2) := by decide +kernel
theorem dX10_wornFrom_118 : decode cX10_wornFrom 118 = .ok (.istore 6, 2) := by decide +kernel
theorem dX10_wornFrom_120 : decode cX10_wornFrom 120 = .ok (.iload 9, 2) := by decide +kernel
theorem dX10_wornFrom_122 : decode cX10_wornFrom 122 = .ok (.ifCond .eq 8, 3) := by decide +kernel
theorem dX10_wornFrom_125 : decode cX10_wornFrom 125 = .ok (.iload 8, 2) := by decide +kernel
theorem dX10_wornFrom_127 : decode cX10_wornFrom 127 = .ok (.goto 5, 3) := by decide +kernel
theorem dX10_wornFrom_130 : decode cX10_wornFrom 130 = .ok (.iload 7, 2) := by decide +kernel
theorem dX10_wornFrom_132 : decode cX10_wornFrom 132 = .ok (.istore 7, 2) := by decide +kernel
theorem dX10_wornFrom_134 : decode cX10_wornFrom 134 = .ok (.iinc 8 1, 3) := by decide +kernel
theorem dX10_wornFrom_137 : decode cX10_wornFrom 137 = .ok (.goto (-75), 3) := by decide +kernel
theorem dX10_wornFrom_140 : decode cX10_wornFrom 140 = .ok (.iload_n 3, 1) := by decide +kernel
theorem dX10_wornFrom_141 : decode cX10_wornFrom 141 = .ok (.ifCond .ne 8, 3) := by decide +kernel
theorem dX10_wornFrom_144 : decode cX10_wornFrom 144 = .ok (.iload 5, 2) := by decide +kernel
theorem dX10_wornFrom_146 : decode cX10_wornFrom 146 = .ok (.goto 15, 3) := by decide +kernel
theorem dX10_wornFrom_149 : decode cX10_wornFrom 149 = .ok (.iload_n 3, 1) := by decide +kernel
theorem dX10_wornFrom_150 : decode cX10_wornFrom 150 = .ok (.iconst 1, 1) := by decide +kernel
theorem dX10_wornFrom_151 : decode cX10_wornFrom 151 = .ok (.if_icmp .ne 8, 3) := by decide +kernel
theorem dX10_wornFrom_154 : decode cX10_wornFrom 154 = .ok (.iload 6, 2) := by decide +kernel
theorem dX10_wornFrom_156 : decode cX10_wornFrom 156 = .ok (.goto 5, 3) := by decide +kernel
theorem dX10_wornFrom_159 : decode cX10_wornFrom 159 = .ok (.iload 7, 2) := by decide +kernel
theorem dX10_wornFrom_161 : decode cX10_wornFrom 161 = .ok (.ireturn, 1) := by decide +kernel
theorem dX10_frost_0 : decode cX10_frost 0 = .ok (.aload_n 0, 1) := by decide +kernel
theorem dX10_frost_1 : decode cX10_frost 1 = .ok (.iconst 0, 1) := by decide +kernel
theorem dX10_frost_2 : decode cX10_frost 2 = .ok (.putfield 78, 3) := by decide +kernel
theorem dX10_frost_5 : decode cX10_frost 5 = .ok (.aload_n 0, 1) := by decide +kernel
theorem dX10_frost_6 : decode cX10_frost 6 = .ok (.iload_n 1, 1) := by decide +kernel
theorem dX10_frost_7 : decode cX10_frost 7 = .ok (.invokevirtual 193, 3) := by decide +kernel
theorem dX10_frost_10 : decode cX10_frost 10 = .ok (.ifCond .eq 40, 3) := by decide +kernel
theorem dX10_frost_13 : decode cX10_frost 13 = .ok (.iload_n 2, 1) := by decide +kernel
theorem dX10_frost_14 : decode cX10_frost 14 = .ok (.i2l, 1) := by decide +kernel
theorem dX10_frost_15 : decode cX10_frost 15 = .ok (.lconst 0, 1) := by decide +kernel
theorem dX10_frost_16 : decode cX10_frost 16 = .ok (.ldc2_w 253, 3) := by decide +kernel
theorem dX10_frost_19 : decode cX10_frost 19 = .ok (.invokestatic 84, 3) := by decide +kernel
theorem dX10_frost_22 : decode cX10_frost 22 = .ok (.ifCond .eq 28, 3) := by decide +kernel
theorem dX10_frost_25 : decode cX10_frost 25 = .ok (.iload_n 3, 1) := by decide +kernel
theorem dX10_frost_26 : decode cX10_frost 26 = .ok (.i2l, 1) := by decide +kernel
theorem dX10_frost_27 : decode cX10_frost 27 = .ok (.ldc2_w 267, 3) := by decide +kernel
theorem dX10_frost_30 : decode cX10_frost 30 = .ok (.ldc2_w 353, 3) := by decide +kernel
theorem dX10_frost_33 : decode cX10_frost 33 = .ok (.invokestatic 84, 3) := by decide +kernel
theorem dX10_frost_36 : decode cX10_frost 36 = .ok (.ifCond .eq 14, 3) := by decide +kernel
theorem dX10_frost_39 : decode cX10_frost 39 = .ok (.iload 4, 2) := by decide +kernel
theorem dX10_frost_41 : decode cX10_frost 41 = .ok (.i2l, 1) := by decide +kernel
theorem dX10_frost_42 : decode cX10_frost 42 = .ok (.lconst 0, 1) := by decide +kernel
theorem dX10_frost_43 : decode cX10_frost 43 = .ok (.lconst 1, 1) := by decide +kernel
theorem dX10_frost_44 : decode cX10_frost 44 = .ok (.invokestatic 84, 3) := by decide +kernel
theorem dX10_frost_47 : decode cX10_frost 47 = .ok (.ifCond .ne 7, 3) := by decide +kernel
theorem dX10_frost_50 : decode cX10_frost 50 = .ok (.ldc2_w 305, 3) := by decide +kernel
theorem dX10_frost_53 : decode cX10_frost 53 = .ok (.lreturn, 1) := by decide +kernel
theorem dX10_frost_54 : decode cX10_frost 54 = .ok (.lconst 0, 1) := by decide +kernel
theorem dX10_frost_55 : decode cX10_frost 55 = .ok (.lstore 5, 2) := by decide +kernel
theorem dX10_frost_57 : decode cX10_frost 57 = .ok (.lconst 1, 1) := by decide +kernel
theorem dX10_frost_58 : decode cX10_frost 58 = .ok (.lstore 7, 2) := by decide +kernel
theorem dX10_frost_60 : decode cX10_frost 60 = .ok (.iconst 0, 1) := by decide +kernel
theorem dX10_frost_61 : decode cX10_frost 61 = .ok (.istore 9, 2) := by decide +kernel
theorem dX10_frost_63 : decode cX10_frost 63 = .ok (.iload 9, 2) := by decide +kernel
theorem dX10_frost_65 : decode cX10_frost 65 = .ok (.iload_n 2, 1) := by decide +kernel
theorem dX10_frost_66 : decode cX10_frost 66 = .ok (.if_icmp .ge 16, 3) := by decide +kernel
theorem dX10_frost_69 : decode cX10_frost 69 = .ok (.lload 7, 2) := by decide +kernel
theorem dX10_frost_71 : decode cX10_frost 71 = .ok (.iload_n 3, 1) := by decide +kernel
theorem dX10_frost_72 : decode cX10_frost 72 = .ok (.i2l, 1) := by decide +kernel
theorem dX10_frost_73 : decode cX10_frost 73 = .ok (.lmul, 1) := by decide +kernel
theorem dX10_frost_74 : decode cX10_frost 74 = .ok (.lstore 7, 2) := by decide +kernel
theorem dX10_frost_76 : decode cX10_frost 76 = .ok (.iinc 9 1, 3) := by decide +kernel
theorem dX10_frost_79 : decode cX10_frost 79 = .ok (.goto (-16), 3) := by decide +kernel
theorem dX10_frost_82 : decode cX10_frost 82 = .ok (.aload_n 0, 1) := by decide +kernel
theorem dX10_frost_83 : decode cX10_frost 83 = .ok (.invokevirtual 225, 3) := by decide +kernel
theorem dX10_frost_86 : decode cX10_frost 86 = .ok (.iconst 0, 1) := by decide +kernel
theorem dX10_frost_87 : decode cX10_frost 87 = .ok (.istore 9, 2) := by decide +kernel
theorem dX10_frost_89 : decode cX10_frost 89 = .ok (.iload 9, 2) := by decide +kernel
theorem dX10_frost_91 : decode cX10_frost 91 = .ok (.iconst 1, 1) := by decide +kernel
theorem dX10_frost_92 : decode cX10_frost 92 = .ok (.iload_n 2, 1) := by decide +kernel
theorem dX10_frost_93 : decode cX10_frost 93 = .ok (.ishl, 1) := by decide +kernel
theorem dX10_frost_94 : decode cX10_frost 94 = .ok (.if_icmp .ge 105, 3) := by decide +kernel
theorem dX10_frost_97 : decode cX10_frost 97 = .ok (.lconst 1, 1) := by decide +kernel
theorem dX10_frost_98 : decode cX10_frost 98 = .ok (.lstore 10, 2) := by decide +kernel
theorem dX10_frost_100 : decode cX10_frost 100 = .ok (.iconst 0, 1) := by decide +kernel
theorem dX10_frost_101 : decode cX10_frost 101 = .ok (.istore 12, 2) := by decide +kernel
theorem dX10_frost_103 : decode cX10_frost 103 = .ok (.iload 12, 2) := by decide +kernel
theorem dX10_frost_105 : decode cX10_frost 105 = .ok (.iload_n 2, 1) := by decide +kernel
theorem dX10_frost_106 : decode cX10_frost 106 = .ok (.if_icmp .ge 56, 3) := by decide +kernel
theorem dX10_frost_109 : decode cX10_frost 109 = .ok (.lload 10, 2) := by decide +kernel
theorem dX10_frost_111 : decode cX10_frost 111 = .ok (.iload 9, 2) := by decide +kernel
theorem dX10_frost_113 : decode cX10_frost 113 = .ok (.iload 12, 2) := by decide +kernel
theorem dX10_frost_115 : decode cX10_frost 115 = .ok (.invokestatic 91, 3) := by decide +kernel
theorem dX10_frost_118 : decode cX10_frost 118 = .ok (.ifCond .eq 7, 3) := by decide +kernel
theorem dX10_frost_121 : decode cX10_frost 121 = .ok (.lconst 1, 1) := by decide +kernel
theorem dX10_frost_122 : decode cX10_frost 122 = .ok (.goto 7, 3) := by decide +kernel
theorem dX10_frost_125 : decode cX10_frost 125 = .ok (.iload_n 3, 1) := by decide +kernel
theorem dX10_frost_126 : decode cX10_frost 126 = .ok (.iconst 1, 1) := by decide +kernel
theorem dX10_frost_127 : decode cX10_frost 127 = .ok (.isub, 1) := by decide +kernel
theorem dX10_frost_128 : decode cX10_frost 128 = .ok (.i2l, 1) := by decide +kernel
theorem dX10_frost_129 : decode cX10_frost 129 = .ok (.lmul, 1) := by decide +kernel
theorem dX10_frost_130 : decode cX10_frost 130 = .ok (.lstore 10, 2) := by decide +kernel
theorem dX10_frost_132 : decode cX10_frost 132 = .ok (.aload_n 0, 1) := by decide +kernel
theorem dX10_frost_133 : decode cX10_frost 133 = .ok (.iload 9, 2) := by decide +kernel
theorem dX10_frost_135 : decode cX10_frost 135 = .ok (.iload 12, 2) := by decide +kernel
theorem dX10_frost_137 : decode cX10_frost 137 = .ok (.invokestatic 91, 3) := by decide +kernel
theorem dX10_frost_140 : decode cX10_frost 140 = .ok (.ifCond .eq 7, 3) := by decide +kernel
theorem dX10_frost_143 : decode cX10_frost 143 = .ok (.iconst 2, 1) := by decide +kernel
theorem dX10_frost_144 : decode cX10_frost 144 = .ok (.goto 4, 3) := by decide +kernel
theorem dX10_frost_147 : decode cX10_frost 147 = .ok (.iconst 1, 1) := by decide +kernel
theorem dX10_frost_148 : decode cX10_frost 148 = .ok (.putfield 23, 3) := by decide +kernel
theorem dX10_frost_151 : decode cX10_frost 151 = .ok (.aload_n 0, 1) := by decide +kernel
theorem dX10_frost_152 : decode cX10_frost 152 = .ok (.invokevirtual 134, 3) := by decide +kernel
theorem dX10_frost_155 : decode cX10_frost 155 = .ok (.pop, 1) := by decide +kernel
theorem dX10_frost_156 : decode cX10_frost 156 = .ok (.iinc 12 1, 3) := by decide +kernel
theorem dX10_frost_159 : decode cX10_frost 159 = .ok (.goto (-56), 3) := by decide +kernel
theorem dX10_frost_162 : decode cX10_frost 162 = .ok (.aload_n 0, 1) := by decide +kernel
theorem dX10_frost_163 : decode cX10_frost 163 = .ok (.iconst 1, 1) := by decide +kernel
theorem dX10_frost_164 : decode cX10_frost 164 = .ok (.putfield 23, 3) := by decide +kernel
theorem dX10_frost_167 : decode cX10_frost 167 = .ok (.lload 5, 2) := by decide +kernel
theorem dX10_frost_169 : decode cX10_frost 169 = .ok (.aload_n 0, 1) := by decide +kernel
theorem dX10_frost_170 : decode cX10_frost 170 = .ok (.getfield 88, 3) := by decide +kernel
theorem dX10_frost_173 : decode cX10_frost 173 = .ok (.iload_n 1, 1) := by decide +kernel
theorem dX10_frost_174 : decode cX10_frost 174 = .ok (.invokestatic 91, 3) := by decide +kernel
theorem dX10_frost_177 : decode cX10_frost 177 = .ok (.ifCond .eq 8, 3) := by decide +kernel
theorem dX10_frost_180 : decode cX10_frost 180 = .ok (.lload 10, 2) := by decide +kernel
theorem dX10_frost_182 : decode cX10_frost 182 = .ok (.goto 4, 3) := by decide +kernel
theorem dX10_frost_185 : decode cX10_frost 185 = .ok (.lconst 0, 1) := by decide +kernel
theorem dX10_frost_186 : decode cX10_frost 186 = .ok (.ladd, 1) := by decide +kernel
theorem dX10_frost_187 : decode cX10_frost 187 = .ok (.lstore 5, 2) := by decide +kernel
theorem dX10_frost_189 : decode cX10_frost 189 = .ok (.aload_n 0, 1) := by decide +kernel
theorem dX10_frost_190 : decode cX10_frost 190 = .ok (.invokevirtual 231, 3) := by decide +kernel
theorem dX10_frost_193 : decode cX10_frost 193 = .ok (.iinc 9 1, 3) := by decide +kernel
theorem dX10_frost_196 : decode cX10_frost 196 = .ok (.goto (-107), 3) := by decide +kernel
theorem dX10_frost_199 : decode cX10_frost 199 = .ok (.lload 5, 2) := by decide +kernel
theorem dX10_frost_201 : decode cX10_frost 201 = .ok (.lload 7, 2) := by decide +kernel
theorem dX10_frost_203 : decode cX10_frost 203 = .ok (.iload 4, 2) := by decide +kernel
theorem dX10_frost_205 : decode cX10_frost 205 = .ok (.invokestatic 307, 3) := by decide +kernel
theorem dX10_frost_208 : decode cX10_frost 208 = .ok (.lreturn, 1) := by decide +kernel
theorem dX10_share_0 : decode cX10_share 0 = .ok (.aload_n 0, 1) := by decide +kernel
theorem dX10_share_1 : decode cX10_share 1 = .ok (.iconst 0, 1) := by decide +kernel
theorem dX10_share_2 : decode cX10_share 2 = .ok (.putfield 78, 3) := by decide +kernel
theorem dX10_share_5 : decode cX10_share 5 = .ok (.aload_n 0, 1) := by decide +kernel
theorem dX10_share_6 : decode cX10_share 6 = .ok (.iload_n 1, 1) := by decide +kernel
theorem dX10_share_7 : decode cX10_share 7 = .ok (.invokevirtual 193, 3) := by decide +kernel
theorem dX10_share_10 : decode cX10_share 10 = .ok (.ifCond .eq 13, 3) := by decide +kernel
theorem dX10_share_13 : decode cX10_share 13 = .ok (.iload_n 2, 1) := by decide +kernel
theorem dX10_share_14 : decode cX10_share 14 = .ok (.i2l, 1) := by decide +kernel
theorem dX10_share_15 : decode cX10_share 15 = .ok (.lconst 0, 1) := by decide +kernel
theorem dX10_share_16 : decode cX10_share 16 = .ok (.lconst 1, 1) := by decide +kernel
theorem dX10_share_17 : decode cX10_share 17 = .ok (.invokestatic 84, 3) := by decide +kernel
theorem dX10_share_20 : decode cX10_share 20 = .ok (.ifCond .ne 7, 3) := by decide +kernel
theorem dX10_share_23 : decode cX10_share 23 = .ok (.ldc2_w 305, 3) := by decide +kernel
theorem dX10_share_26 : decode cX10_share 26 = .ok (.lreturn, 1) := by decide +kernel
theorem dX10_share_27 : decode cX10_share 27 = .ok (.aload_n 0, 1) := by decide +kernel
theorem dX10_share_28 : decode cX10_share 28 = .ok (.getfield 16, 3) := by decide +kernel
theorem dX10_share_31 : decode cX10_share 31 = .ok (.iload_n 1, 1) := by decide +kernel
theorem dX10_share_32 : decode cX10_share 32 = .ok (.iaload, 1) := by decide +kernel
theorem dX10_share_33 : decode cX10_share 33 = .ok (.i2l, 1) := by decide +kernel
theorem dX10_share_34 : decode cX10_share 34 = .ok (.aload_n 0, 1) := by decide +kernel
theorem dX10_share_35 : decode cX10_share 35 = .ok (.invokevirtual 269, 3) := by decide +kernel
theorem dX10_share_38 : decode cX10_share 38 = .ok (.i2l, 1) := by decide +kernel
theorem dX10_share_39 : decode cX10_share 39 = .ok (.iload_n 2, 1) := by decide +kernel
theorem dX10_share_40 : decode cX10_share 40 = .ok (.invokestatic 307, 3) := by decide +kernel
theorem dX10_share_43 : decode cX10_share 43 = .ok (.lreturn, 1) := by decide +kernel
theorem dX10_forged_0 : decode cX10_forged 0 = .ok (.aload_n 0, 1) := by decide +kernel
theorem dX10_forged_1 : decode cX10_forged 1 = .ok (.iconst 0, 1) := by decide +kernel
theorem dX10_forged_2 : decode cX10_forged 2 = .ok (.putfield 78, 3) := by decide +kernel
theorem dX10_forged_5 : decode cX10_forged 5 = .ok (.aload_n 0, 1) := by decide +kernel
theorem dX10_forged_6 : decode cX10_forged 6 = .ok (.iload_n 1, 1) := by decide +kernel
theorem dX10_forged_7 : decode cX10_forged 7 = .ok (.invokevirtual 219, 3) := by decide +kernel
theorem dX10_forged_10 : decode cX10_forged 10 = .ok (.istore_n 2, 1) := by decide +kernel
theorem dX10_forged_11 : decode cX10_forged 11 = .ok (.iload_n 2, 1) := by decide +kernel
theorem dX10_forged_12 : decode cX10_forged 12 = .ok (.ifCond .ge 5, 3) := by decide +kernel
theorem dX10_forged_15 : decode cX10_forged 15 = .ok (.iload_n 2, 1) := by decide +kernel
theorem dX10_forged_16 : decode cX10_forged 16 = .ok (.ireturn, 1) := by decide +kernel
theorem dX10_forged_17 : decode cX10_forged 17 = .ok (.iconst 0, 1) := by decide +kernel
theorem dX10_forged_18 : decode cX10_forged 18 = .ok (.istore_n 3, 1) := by decide +kernel
theorem dX10_forged_19 : decode cX10_forged 19 = .ok (.iload_n 3, 1) := by decide +kernel
theorem dX10_forged_20 : decode cX10_forged 20 = .ok (.aload_n 0, 1) := by decide +kernel
theorem dX10_forged_21 : decode cX10_forged 21 = .ok (.getfield 38, 3) := by decide +kernel
theorem dX10_forged_24 : decode cX10_forged 24 = .ok (.iload_n 1, 1) := by decide +kernel
theorem dX10_forged_25 : decode cX10_forged 25 = .ok (.iaload, 1) := by decide +kernel
theorem dX10_forged_26 : decode cX10_forged 26 = .ok (.if_icmp .ge 41, 3) := by decide +kernel
theorem dX10_forged_29 : decode cX10_forged 29 = .ok (.iload_n 3, 1) := by decide +kernel
theorem dX10_forged_30 : decode cX10_forged 30 = .ok (.aload_n 0, 1) := by decide +kernel
theorem dX10_forged_31 : decode cX10_forged 31 = .ok (.getfield 81, 3) := by decide +kernel
theorem dX10_forged_34 : decode cX10_forged 34 = .ok (.if_icmp .ge 25, 3) := by decide +kernel
theorem dX10_forged_37 : decode cX10_forged 37 = .ok (.aload_n 0, 1) := by decide +kernel
theorem dX10_forged_38 : decode cX10_forged 38 = .ok (.getfield 41, 3) := by decide +kernel
theorem dX10_forged_41 : decode cX10_forged 41 = .ok (.bipush 100, 2) := by decide +kernel
theorem dX10_forged_43 : decode cX10_forged 43 = .ok (.iload_n 1, 1) := by decide +kernel
theorem dX10_forged_44 : decode cX10_forged 44 = .ok (.imul, 1) := by decide +kernel
theorem dX10_forged_45 : decode cX10_forged 45 = .ok (.iload_n 3, 1) := by decide +kernel
theorem dX10_forged_46 : decode cX10_forged 46 = .ok (.iadd, 1) := by decide +kernel
theorem dX10_forged_47 : decode cX10_forged 47 = .ok (.laload, 1) := by decide +kernel
theorem dX10_forged_48 : decode cX10_forged 48 = .ok (.aload_n 0, 1) := by decide +kernel
theorem dX10_forged_49 : decode cX10_forged 49 = .ok (.getfield 7, 3) := by decide +kernel
theorem dX10_forged_52 : decode cX10_forged 52 = .ok (.iload_n 3, 1) := by decide +kernel
theorem dX10_forged_53 : decode cX10_forged 53 = .ok (.iaload, 1) := by decide +kernel
theorem dX10_forged_54 : decode cX10_forged 54 = .ok (.i2l, 1) := by decide +kernel
theorem dX10_forged_55 : decode cX10_forged 55 = .ok (.lcmp, 1) := by decide +kernel
theorem dX10_forged_56 : decode cX10_forged 56 = .ok (.ifCond .eq 5, 3) := by decide +kernel
theorem dX10_forged_59 : decode cX10_forged 59 = .ok (.iload_n 3, 1) := by decide +kernel
theorem dX10_forged_60 : decode cX10_forged 60 = .ok (.ireturn, 1) := by decide +kernel
theorem dX10_forged_61 : decode cX10_forged 61 = .ok (.iinc 3 1, 3) := by decide +kernel
theorem dX10_forged_64 : decode cX10_forged 64 = .ok (.goto (-45), 3) := by decide +kernel
theorem dX10_forged_67 : decode cX10_forged 67 = .ok (.bipush (-4), 2) := by decide +kernel
theorem dX10_forged_69 : decode cX10_forged 69 = .ok (.ireturn, 1) := by decide +kernel
theorem dX10_judge_0 : decode cX10_judge 0 = .ok (.aload_n 0, 1) := by decide +kernel
theorem dX10_judge_1 : decode cX10_judge 1 = .ok (.iconst 0, 1) := by decide +kernel
theorem dX10_judge_2 : decode cX10_judge 2 = .ok (.putfield 78, 3) := by decide +kernel
theorem dX10_judge_5 : decode cX10_judge 5 = .ok (.aload_n 0, 1) := by decide +kernel
theorem dX10_judge_6 : decode cX10_judge 6 = .ok (.iload_n 1, 1) := by decide +kernel
theorem dX10_judge_7 : decode cX10_judge 7 = .ok (.invokevirtual 219, 3) := by decide +kernel
theorem dX10_judge_10 : decode cX10_judge 10 = .ok (.istore_n 2, 1) := by decide +kernel
theorem dX10_judge_11 : decode cX10_judge 11 = .ok (.iload_n 2, 1) := by decide +kernel
theorem dX10_judge_12 : decode cX10_judge 12 = .ok (.ifCond .ge 5, 3) := by decide +kernel
theorem dX10_judge_15 : decode cX10_judge 15 = .ok (.iload_n 2, 1) := by decide +kernel
theorem dX10_judge_16 : decode cX10_judge 16 = .ok (.ireturn, 1) := by decide +kernel
theorem dX10_judge_17 : decode cX10_judge 17 = .ok (.bipush (-4), 2) := by decide +kernel
theorem dX10_judge_19 : decode cX10_judge 19 = .ok (.istore_n 3, 1) := by decide +kernel
theorem dX10_judge_20 : decode cX10_judge 20 = .ok (.aload_n 0, 1) := by decide +kernel
theorem dX10_judge_21 : decode cX10_judge 21 = .ok (.invokevirtual 225, 3) := by decide +kernel
theorem dX10_judge_24 : decode cX10_judge 24 = .ok (.iconst 0, 1) := by decide +kernel
theorem dX10_judge_25 : decode cX10_judge 25 = .ok (.istore 4, 2) := by decide +kernel
theorem dX10_judge_27 : decode cX10_judge 27 = .ok (.iload 4, 2) := by decide +kernel
theorem dX10_judge_29 : decode cX10_judge 29 = .ok (.aload_n 0, 1) := by decide +kernel
theorem dX10_judge_30 : decode cX10_judge 30 = .ok (.getfield 38, 3) := by decide +kernel
theorem dX10_judge_33 : decode cX10_judge 33 = .ok (.iload_n 1, 1) := by decide +kernel
theorem dX10_judge_34 : decode cX10_judge 34 = .ok (.iaload, 1) := by decide +kernel
theorem dX10_judge_35 : decode cX10_judge 35 = .ok (.if_icmp .ge 60, 3) := by decide +kernel
theorem dX10_judge_38 : decode cX10_judge 38 = .ok (.iload_n 3, 1) := by decide +kernel
theorem dX10_judge_39 : decode cX10_judge 39 = .ok (.ifCond .ge 56, 3) := by decide +kernel
theorem dX10_judge_42 : decode cX10_judge 42 = .ok (.aload_n 0, 1) := by decide +kernel
theorem dX10_judge_43 : decode cX10_judge 43 = .ok (.iload_n 1, 1) := by decide +kernel
theorem dX10_judge_44 : decode cX10_judge 44 = .ok (.iload 4, 2) := by decide +kernel
theorem dX10_judge_46 : decode cX10_judge 46 = .ok (.invokevirtual 347, 3) := by decide +kernel
theorem dX10_judge_49 : decode cX10_judge 49 = .ok (.ifCond .ne 32, 3) := by decide +kernel
theorem dX10_judge_52 : decode cX10_judge 52 = .ok (.aload_n 0, 1) := by decide +kernel
theorem dX10_judge_53 : decode cX10_judge 53 = .ok (.getfield 41, 3) := by decide +kernel
theorem dX10_judge_56 : decode cX10_judge 56 = .ok (.bipush 100, 2) := by decide +kernel
theorem dX10_judge_58 : decode cX10_judge 58 = .ok (.iload_n 1, 1) := by decide +kernel
theorem dX10_judge_59 : decode cX10_judge 59 = .ok (.imul, 1) := by decide +kernel
theorem dX10_judge_60 : decode cX10_judge 60 = .ok (.iload 4, 2) := by decide +kernel
theorem dX10_judge_62 : decode cX10_judge 62 = .ok (.iadd, 1) := by decide +kernel
theorem dX10_judge_63 : decode cX10_judge 63 = .ok (.laload, 1) := by decide +kernel
theorem dX10_judge_64 : decode cX10_judge 64 = .ok (.aload_n 0, 1) := by decide +kernel
theorem dX10_judge_65 : decode cX10_judge 65 = .ok (.getfield 88, 3) := by decide +kernel
theorem dX10_judge_68 : decode cX10_judge 68 = .ok (.invokestatic 311, 3) := by decide +kernel
theorem dX10_judge_71 : decode cX10_judge 71 = .ok (.i2l, 1) := by decide +kernel
theorem dX10_judge_72 : decode cX10_judge 72 = .ok (.lcmp, 1) := by decide +kernel
theorem dX10_judge_73 : decode cX10_judge 73 = .ok (.ifCond .eq 8, 3) := by decide +kernel
theorem dX10_judge_76 : decode cX10_judge 76 = .ok (.iload 4, 2) := by decide +kernel
theorem dX10_judge_78 : decode cX10_judge 78 = .ok (.goto 5, 3) := by decide +kernel
theorem dX10_judge_81 : decode cX10_judge 81 = .ok (.bipush (-4), 2) := by decide +kernel
theorem dX10_judge_83 : decode cX10_judge 83 = .ok (.istore_n 3, 1) := by decide +kernel
theorem dX10_judge_84 : decode cX10_judge 84 = .ok (.aload_n 0, 1) := by decide +kernel
theorem dX10_judge_85 : decode cX10_judge 85 = .ok (.invokevirtual 134, 3) := by decide +kernel
theorem dX10_judge_88 : decode cX10_judge 88 = .ok (.pop, 1) := by decide +kernel
theorem dX10_judge_89 : decode cX10_judge 89 = .ok (.iinc 4 1, 3) := by decide +kernel
theorem dX10_judge_92 : decode cX10_judge 92 = .ok (.goto (-65), 3) := by decide +kernel
theorem dX10_judge_95 : decode cX10_judge 95 = .ok (.aload_n 0, 1) := by decide +kernel
theorem dX10_judge_96 : decode cX10_judge 96 = .ok (.invokevirtual 231, 3) := by decide +kernel
theorem dX10_judge_99 : decode cX10_judge 99 = .ok (.iload_n 3, 1) := by decide +kernel
theorem dX10_judge_100 : decode cX10_judge 100 = .ok (.ireturn, 1) := by decide +kernel
theorem dX10_drawBelow_0 : decode cX10_drawBelow 0 = .ok (.aload_n 0, 1) := by decide +kernel
theorem dX10_drawBelow_1 : decode cX10_drawBelow 1 = .ok (.aload_n 0, 1) := by decide +kernel
theorem dX10_drawBelow_2 : decode cX10_drawBelow 2 = .ok (.getfield 355, 3) := by decide +kernel
theorem dX10_drawBelow_5 : decode cX10_drawBelow 5 = .ok (.ldc_w 358, 3) := by decide +kernel
theorem dX10_drawBelow_8 : decode cX10_drawBelow 8 = .ok (.imul, 1) := by decide +kernel
theorem dX10_drawBelow_9 : decode cX10_drawBelow 9 = .ok (.sipush 12345, 3) := by decide +kernel
theorem dX10_drawBelow_12 : decode cX10_drawBelow 12 = .ok (.iadd, 1) := by decide +kernel
theorem dX10_drawBelow_13 : decode cX10_drawBelow 13 = .ok (.putfield 355, 3) := by decide +kernel
theorem dX10_drawBelow_16 : decode cX10_drawBelow 16 = .ok (.aload_n 0, 1) := by decide +kernel
theorem dX10_drawBelow_17 : decode cX10_drawBelow 17 = .ok (.getfield 355, 3) := by decide +kernel
theorem dX10_drawBelow_20 : decode cX10_drawBelow 20 = .ok (.ldc_w 359, 3) := by decide +kernel
theorem dX10_drawBelow_23 : decode cX10_drawBelow 23 = .ok (.iand, 1) := by decide +kernel
theorem dX10_drawBelow_24 : decode cX10_drawBelow 24 = .ok (.ldc_w 360, 3) := by decide +kernel
theorem dX10_drawBelow_27 : decode cX10_drawBelow 27 = .ok (.idiv, 1) := by decide +kernel
theorem dX10_drawBelow_28 : decode cX10_drawBelow 28 = .ok (.iload_n 1, 1) := by decide +kernel
theorem dX10_drawBelow_29 : decode cX10_drawBelow 29 = .ok (.irem, 1) := by decide +kernel
theorem dX10_drawBelow_30 : decode cX10_drawBelow 30 = .ok (.ireturn, 1) := by decide +kernel
theorem dX10_winters_0 : decode cX10_winters 0 = .ok (.aload_n 0, 1) := by decide +kernel
theorem dX10_winters_1 : decode cX10_winters 1 = .ok (.iconst 0, 1) := by decide +kernel
theorem dX10_winters_2 : decode cX10_winters 2 = .ok (.putfield 78, 3) := by decide +kernel
theorem dX10_winters_5 : decode cX10_winters 5 = .ok (.iload_n 1, 1) := by decide +kernel
theorem dX10_winters_6 : decode cX10_winters 6 = .ok (.i2l, 1) := by decide +kernel
theorem dX10_winters_7 : decode cX10_winters 7 = .ok (.lconst 1, 1) := by decide +kernel
theorem dX10_winters_8 : decode cX10_winters 8 = .ok (.ldc2_w 353, 3) := by decide +kernel
theorem dX10_winters_11 : decode cX10_winters 11 = .ok (.invokestatic 84, 3) := by decide +kernel
theorem dX10_winters_14 : decode cX10_winters 14 = .ok (.ifCond .eq 13, 3) := by decide +kernel
theorem dX10_winters_17 : decode cX10_winters 17 = .ok (.iload_n 3, 1) := by decide +kernel
theorem dX10_winters_18 : decode cX10_winters 18 = .ok (.i2l, 1) := by decide +kernel
theorem dX10_winters_19 : decode cX10_winters 19 = .ok (.lconst 0, 1) := by decide +kernel
theorem dX10_winters_20 : decode cX10_winters 20 = .ok (.lconst 1, 1) := by decide +kernel
theorem dX10_winters_21 : decode cX10_winters 21 = .ok (.invokestatic 84, 3) := by decide +kernel
theorem dX10_winters_24 : decode cX10_winters 24 = .ok (.ifCond .ne 5, 3) := by decide +kernel
theorem dX10_winters_27 : decode cX10_winters 27 = .ok (.iconst (-1), 1) := by decide +kernel
theorem dX10_winters_28 : decode cX10_winters 28 = .ok (.ireturn, 1) := by decide +kernel
theorem dX10_winters_29 : decode cX10_winters 29 = .ok (.aload_n 0, 1) := by decide +kernel
theorem dX10_winters_30 : decode cX10_winters 30 = .ok (.iload_n 2, 1) := by decide +kernel
theorem dX10_winters_31 : decode cX10_winters 31 = .ok (.putfield 355, 3) := by decide +kernel
theorem dX10_winters_34 : decode cX10_winters 34 = .ok (.iconst 0, 1) := by decide +kernel
theorem dX10_winters_35 : decode cX10_winters 35 = .ok (.istore 4, 2) := by decide +kernel
theorem dX10_winters_37 : decode cX10_winters 37 = .ok (.aload_n 0, 1) := by decide +kernel
theorem dX10_winters_38 : decode cX10_winters 38 = .ok (.getfield 131, 3) := by decide +kernel
theorem dX10_winters_41 : decode cX10_winters 41 = .ok (.istore 5, 2) := by decide +kernel
theorem dX10_winters_43 : decode cX10_winters 43 = .ok (.aload_n 0, 1) := by decide +kernel
theorem dX10_winters_44 : decode cX10_winters 44 = .ok (.invokevirtual 225, 3) := by decide +kernel
theorem dX10_winters_47 : decode cX10_winters 47 = .ok (.iconst 0, 1) := by decide +kernel
theorem dX10_winters_48 : decode cX10_winters 48 = .ok (.istore 6, 2) := by decide +kernel
theorem dX10_winters_50 : decode cX10_winters 50 = .ok (.iload 6, 2) := by decide +kernel
theorem dX10_winters_52 : decode cX10_winters 52 = .ok (.iload_n 1, 1) := by decide +kernel
theorem dX10_winters_53 : decode cX10_winters 53 = .ok (.if_icmp .ge 81, 3) := by decide +kernel
theorem dX10_winters_56 : decode cX10_winters 56 = .ok (.iconst 0, 1) := by decide +kernel
theorem dX10_winters_57 : decode cX10_winters 57 = .ok (.istore 7, 2) := by decide +kernel
theorem dX10_winters_59 : decode cX10_winters 59 = .ok (.iload 7, 2) := by decide +kernel
theorem dX10_winters_61 : decode cX10_winters 61 = .ok (.aload_n 0, 1) := by decide +kernel
theorem dX10_winters_62 : decode cX10_winters 62 = .ok (.getfield 81, 3) := by decide +kernel
theorem dX10_winters_65 : decode cX10_winters 65 = .ok (.if_icmp .ge 22, 3) := by decide +kernel
theorem dX10_winters_68 : decode cX10_winters 68 = .ok (.aload_n 0, 1) := by decide +kernel
theorem dX10_winters_69 : decode cX10_winters 69 = .ok (.getfield 13, 3) := by decide +kernel
theorem dX10_winters_72 : decode cX10_winters 72 = .ok (.iload 7, 2) := by decide +kernel
theorem dX10_winters_74 : decode cX10_winters 74 = .ok (.aload_n 0, 1) := by decide +kernel
theorem dX10_winters_75 : decode cX10_winters 75 = .ok (.bipush 10, 2) := by decide +kernel
theorem dX10_winters_77 : decode cX10_winters 77 = .ok (.invokevirtual 361, 3) := by decide +kernel
theorem dX10_winters_80 : decode cX10_winters 80 = .ok (.iastore, 1) := by decide +kernel
theorem dX10_winters_81 : decode cX10_winters 81 = .ok (.iinc 7 1, 3) := by decide +kernel
theorem dX10_winters_84 : decode cX10_winters 84 = .ok (.goto (-25), 3) := by decide +kernel
theorem dX10_winters_87 : decode cX10_winters 87 = .ok (.aload_n 0, 1) := by decide +kernel
theorem dX10_winters_88 : decode cX10_winters 88 = .ok (.bipush 20, 2) := by decide +kernel
theorem dX10_winters_90 : decode cX10_winters 90 = .ok (.invokevirtual 204, 3) := by decide +kernel
theorem dX10_winters_93 : decode cX10_winters 93 = .ok (.iload 4, 2) := by decide +kernel
theorem dX10_winters_95 : decode cX10_winters 95 = .ok (.iload_n 3, 1) := by decide +kernel
theorem dX10_winters_96 : decode cX10_winters 96 = .ok (.ifCond .ne 13, 3) := by decide +kernel
theorem dX10_winters_99 : decode cX10_winters 99 = .ok (.aload_n 0, 1) := by decide +kernel
theorem dX10_winters_100 : decode cX10_winters 100 = .ok (.getfield 131, 3) := by decide +kernel
theorem dX10_winters_103 : decode cX10_winters 103 = .ok (.iload 5, 2) := by decide +kernel
theorem dX10_winters_105 : decode cX10_winters 105 = .ok (.isub, 1) := by decide +kernel
theorem dX10_winters_106 : decode cX10_winters 106 = .ok (.goto 15, 3) := by decide +kernel
theorem dX10_winters_109 : decode cX10_winters 109 = .ok (.aload_n 0, 1) := by decide +kernel
theorem dX10_winters_110 : decode cX10_winters 110 = .ok (.getfield 81, 3) := by decide +kernel
theorem dX10_winters_113 : decode cX10_winters 113 = .ok (.aload_n 0, 1) := by decide +kernel
theorem dX10_winters_114 : decode cX10_winters 114 = .ok (.getfield 88, 3) := by decide +kernel
theorem dX10_winters_117 : decode cX10_winters 117 = .ok (.invokestatic 311, 3) := by decide +kernel
theorem dX10_winters_120 : decode cX10_winters 120 = .ok (.isub, 1) := by decide +kernel
theorem dX10_winters_121 : decode cX10_winters 121 = .ok (.iadd, 1) := by decide +kernel
theorem dX10_winters_122 : decode cX10_winters 122 = .ok (.istore 4, 2) := by decide +kernel
theorem dX10_winters_124 : decode cX10_winters 124 = .ok (.aload_n 0, 1) := by decide +kernel
theorem dX10_winters_125 : decode cX10_winters 125 = .ok (.invokevirtual 231, 3) := by decide +kernel
theorem dX10_winters_128 : decode cX10_winters 128 = .ok (.iinc 6 1, 3) := by decide +kernel
theorem dX10_winters_131 : decode cX10_winters 131 = .ok (.goto (-81), 3) := by decide +kernel
theorem dX10_winters_134 : decode cX10_winters 134 = .ok (.iload 4, 2) := by decide +kernel
theorem dX10_winters_136 : decode cX10_winters 136 = .ok (.ireturn, 1) := by decide +kernel
theorem dX10_count_0 : decode cX10_count 0 = .ok (.aload_n 0, 1) := by decide +kernel
theorem dX10_count_1 : decode cX10_count 1 = .ok (.iconst 0, 1) := by decide +kernel
theorem dX10_count_2 : decode cX10_count 2 = .ok (.putfield 78, 3) := by decide +kernel
theorem dX10_count_5 : decode cX10_count 5 = .ok (.iload_n 1, 1) := by decide +kernel
theorem dX10_count_6 : decode cX10_count 6 = .ok (.tableswitch 86 0 7 #[46, 51, 56, 61, 66, 71, 76, 81], 46) := by decide +kernel
theorem dX10_count_52 : decode cX10_count 52 = .ok (.aload_n 0, 1) := by decide +kernel
theorem dX10_count_53 : decode cX10_count 53 = .ok (.getfield 81, 3) := by decide +kernel
theorem dX10_count_56 : decode cX10_count 56 = .ok (.ireturn, 1) := by decide +kernel
theorem dX10_count_57 : decode cX10_count 57 = .ok (.aload_n 0, 1) := by decide +kernel
theorem dX10_count_58 : decode cX10_count 58 = .ok (.getfield 105, 3) := by decide +kernel
theorem dX10_count_61 : decode cX10_count 61 = .ok (.ireturn, 1) := by decide +kernel
theorem dX10_count_62 : decode cX10_count 62 = .ok (.aload_n 0, 1) := by decide +kernel
theorem dX10_count_63 : decode cX10_count 63 = .ok (.getfield 131, 3) := by decide +kernel
theorem dX10_count_66 : decode cX10_count 66 = .ok (.ireturn, 1) := by decide +kernel
theorem dX10_count_67 : decode cX10_count 67 = .ok (.aload_n 0, 1) := by decide +kernel
theorem dX10_count_68 : decode cX10_count 68 = .ok (.getfield 19, 3) := by decide +kernel
theorem dX10_count_71 : decode cX10_count 71 = .ok (.ireturn, 1) := by decide +kernel
theorem dX10_count_72 : decode cX10_count 72 = .ok (.aload_n 0, 1) := by decide +kernel
theorem dX10_count_73 : decode cX10_count 73 = .ok (.getfield 142, 3) := by decide +kernel
theorem dX10_count_76 : decode cX10_count 76 = .ok (.ireturn, 1) := by decide +kernel
theorem dX10_count_77 : decode cX10_count 77 = .ok (.aload_n 0, 1) := by decide +kernel
theorem dX10_count_78 : decode cX10_count 78 = .ok (.getfield 149, 3) := by decide +kernel
theorem dX10_count_81 : decode cX10_count 81 = .ok (.ireturn, 1) := by decide +kernel
theorem dX10_count_82 : decode cX10_count 82 = .ok (.aload_n 0, 1) := by decide +kernel
theorem dX10_count_83 : decode cX10_count 83 = .ok (.getfield 88, 3) := by decide +kernel
theorem dX10_count_86 : decode cX10_count 86 = .ok (.ireturn, 1) := by decide +kernel
theorem dX10_count_87 : decode cX10_count 87 = .ok (.aload_n 0, 1) := by decide +kernel
theorem dX10_count_88 : decode cX10_count 88 = .ok (.getfield 95, 3) := by decide +kernel
theorem dX10_count_91 : decode cX10_count 91 = .ok (.ireturn, 1) := by decide +kernel
theorem dX10_count_92 : decode cX10_count 92 = .ok (.iconst (-1), 1) := by decide +kernel
theorem dX10_count_93 : decode cX10_count 93 = .ok (.ireturn, 1) := by decide +kernel
theorem dX10_wrongKept_0 : decode cX10_wrongKept 0 = .ok (.iload_n 1, 1) := by decide +kernel
theorem dX10_wrongKept_1 : decode cX10_wrongKept 1 = .ok (.i2l, 1) := by decide +kernel
theorem dX10_wrongKept_2 : decode cX10_wrongKept 2 = .ok (.lconst 0, 1) := by decide +kernel
theorem dX10_wrongKept_3 : decode cX10_wrongKept 3 = .ok (.ldc2_w 253, 3) := by decide +kernel
theorem dX10_wrongKept_6 : decode cX10_wrongKept 6 = .ok (.invokestatic 84, 3) := by decide +kernel
theorem dX10_wrongKept_9 : decode cX10_wrongKept 9 = .ok (.ifCond .ne 7, 3) := by decide +kernel
theorem dX10_wrongKept_12 : decode cX10_wrongKept 12 = .ok (.iconst (-1), 1) := by decide +kernel
theorem dX10_wrongKept_13 : decode cX10_wrongKept 13 = .ok (.goto 33, 3) := by decide +kernel
theorem dX10_wrongKept_16 : decode cX10_wrongKept 16 = .ok (.aload_n 0, 1) := by decide +kernel
theorem dX10_wrongKept_17 : decode cX10_wrongKept 17 = .ok (.getfield 26, 3) := by decide +kernel
theorem dX10_wrongKept_20 : decode cX10_wrongKept 20 = .ok (.iload_n 1, 1) := by decide +kernel
theorem dX10_wrongKept_21 : decode cX10_wrongKept 21 = .ok (.iaload, 1) := by decide +kernel
theorem dX10_wrongKept_22 : decode cX10_wrongKept 22 = .ok (.ifCond .ne 8, 3) := by decide +kernel
theorem dX10_wrongKept_25 : decode cX10_wrongKept 25 = .ok (.bipush (-11), 2) := by decide +kernel
theorem dX10_wrongKept_27 : decode cX10_wrongKept 27 = .ok (.goto 19, 3) := by decide +kernel
theorem dX10_wrongKept_30 : decode cX10_wrongKept 30 = .ok (.aload_n 0, 1) := by decide +kernel
theorem dX10_wrongKept_31 : decode cX10_wrongKept 31 = .ok (.getfield 26, 3) := by decide +kernel
theorem dX10_wrongKept_34 : decode cX10_wrongKept 34 = .ok (.iload_n 1, 1) := by decide +kernel
theorem dX10_wrongKept_35 : decode cX10_wrongKept 35 = .ok (.iaload, 1) := by decide +kernel
theorem dX10_wrongKept_36 : decode cX10_wrongKept 36 = .ok (.iconst 2, 1) := by decide +kernel
theorem dX10_wrongKept_37 : decode cX10_wrongKept 37 = .ok (.if_icmp .ne 8, 3) := by decide +kernel
theorem dX10_wrongKept_40 : decode cX10_wrongKept 40 = .ok (.bipush (-12), 2) := by decide +kernel
theorem dX10_wrongKept_42 : decode cX10_wrongKept 42 = .ok (.goto 4, 3) := by decide +kernel
theorem dX10_wrongKept_45 : decode cX10_wrongKept 45 = .ok (.iconst 0, 1) := by decide +kernel
theorem dX10_wrongKept_46 : decode cX10_wrongKept 46 = .ok (.ireturn, 1) := by decide +kernel
theorem dX10_keep_0 : decode cX10_keep 0 = .ok (.aload_n 0, 1) := by decide +kernel
theorem dX10_keep_1 : decode cX10_keep 1 = .ok (.iconst 0, 1) := by decide +kernel
theorem dX10_keep_2 : decode cX10_keep 2 = .ok (.putfield 78, 3) := by decide +kernel
theorem dX10_keep_5 : decode cX10_keep 5 = .ok (.iload_n 1, 1) := by decide +kernel
theorem dX10_keep_6 : decode cX10_keep 6 = .ok (.i2l, 1) := by decide +kernel
theorem dX10_keep_7 : decode cX10_keep 7 = .ok (.lconst 0, 1) := by decide +kernel
theorem dX10_keep_8 : decode cX10_keep 8 = .ok (.ldc2_w 253, 3) := by decide +kernel
theorem dX10_keep_11 : decode cX10_keep 11 = .ok (.invokestatic 84, 3) := by decide +kernel
theorem dX10_keep_14 : decode cX10_keep 14 = .ok (.ifCond .eq 43, 3) := by decide +kernel
theorem dX10_keep_17 : decode cX10_keep 17 = .ok (.iload_n 2, 1) := by decide +kernel
theorem dX10_keep_18 : decode cX10_keep 18 = .ok (.i2l, 1) := by decide +kernel
theorem dX10_keep_19 : decode cX10_keep 19 = .ok (.lconst 0, 1) := by decide +kernel
theorem dX10_keep_20 : decode cX10_keep 20 = .ok (.lconst 1, 1) := by decide +kernel
theorem dX10_keep_21 : decode cX10_keep 21 = .ok (.invokestatic 84, 3) := by decide +kernel
theorem dX10_keep_24 : decode cX10_keep 24 = .ok (.ifCond .eq 33, 3) := by decide +kernel
theorem dX10_keep_27 : decode cX10_keep 27 = .ok (.iload_n 2, 1) := by decide +kernel
theorem dX10_keep_28 : decode cX10_keep 28 = .ok (.iconst 1, 1) := by decide +kernel
theorem dX10_keep_29 : decode cX10_keep 29 = .ok (.if_icmp .ne 30, 3) := by decide +kernel
theorem dX10_keep_32 : decode cX10_keep 32 = .ok (.iload_n 3, 1) := by decide +kernel
theorem dX10_keep_33 : decode cX10_keep 33 = .ok (.i2l, 1) := by decide +kernel
theorem dX10_keep_34 : decode cX10_keep 34 = .ok (.lconst 0, 1) := by decide +kernel
theorem dX10_keep_35 : decode cX10_keep 35 = .ok (.ldc2_w 253, 3) := by decide +kernel
theorem dX10_keep_38 : decode cX10_keep 38 = .ok (.invokestatic 84, 3) := by decide +kernel
theorem dX10_keep_41 : decode cX10_keep 41 = .ok (.ifCond .eq 16, 3) := by decide +kernel
theorem dX10_keep_44 : decode cX10_keep 44 = .ok (.iload 4, 2) := by decide +kernel
theorem dX10_keep_46 : decode cX10_keep 46 = .ok (.i2l, 1) := by decide +kernel
theorem dX10_keep_47 : decode cX10_keep 47 = .ok (.lconst 0, 1) := by decide +kernel
theorem dX10_keep_48 : decode cX10_keep 48 = .ok (.ldc2_w 260, 3) := by decide +kernel
theorem dX10_keep_51 : decode cX10_keep 51 = .ok (.invokestatic 84, 3) := by decide +kernel
theorem dX10_keep_54 : decode cX10_keep 54 = .ok (.ifCond .ne 5, 3) := by decide +kernel
theorem dX10_keep_57 : decode cX10_keep 57 = .ok (.iconst (-1), 1) := by decide +kernel
theorem dX10_keep_58 : decode cX10_keep 58 = .ok (.ireturn, 1) := by decide +kernel
theorem dX10_keep_59 : decode cX10_keep 59 = .ok (.aload_n 0, 1) := by decide +kernel
theorem dX10_keep_60 : decode cX10_keep 60 = .ok (.getfield 26, 3) := by decide +kernel
theorem dX10_keep_63 : decode cX10_keep 63 = .ok (.iload_n 1, 1) := by decide +kernel
theorem dX10_keep_64 : decode cX10_keep 64 = .ok (.iload_n 2, 1) := by decide +kernel
theorem dX10_keep_65 : decode cX10_keep 65 = .ok (.iastore, 1) := by decide +kernel
theorem dX10_keep_66 : decode cX10_keep 66 = .ok (.aload_n 0, 1) := by decide +kernel
theorem dX10_keep_67 : decode cX10_keep 67 = .ok (.getfield 29, 3) := by decide +kernel
theorem dX10_keep_70 : decode cX10_keep 70 = .ok (.iload_n 1, 1) := by decide +kernel
theorem dX10_keep_71 : decode cX10_keep 71 = .ok (.iload_n 2, 1) := by decide +kernel
theorem dX10_keep_72 : decode cX10_keep 72 = .ok (.iconst 1, 1) := by decide +kernel
theorem dX10_keep_73 : decode cX10_keep 73 = .ok (.if_icmp .ne 7, 3) := by decide +kernel
theorem dX10_keep_76 : decode cX10_keep 76 = .ok (.iload_n 3, 1) := by decide +kernel
theorem dX10_keep_77 : decode cX10_keep 77 = .ok (.goto 4, 3) := by decide +kernel
theorem dX10_keep_80 : decode cX10_keep 80 = .ok (.iconst 0, 1) := by decide +kernel
theorem dX10_keep_81 : decode cX10_keep 81 = .ok (.iastore, 1) := by decide +kernel
theorem dX10_keep_82 : decode cX10_keep 82 = .ok (.aload_n 0, 1) := by decide +kernel
theorem dX10_keep_83 : decode cX10_keep 83 = .ok (.getfield 32, 3) := by decide +kernel
theorem dX10_keep_86 : decode cX10_keep 86 = .ok (.iload_n 1, 1) := by decide +kernel
theorem dX10_keep_87 : decode cX10_keep 87 = .ok (.iload_n 2, 1) := by decide +kernel
theorem dX10_keep_88 : decode cX10_keep 88 = .ok (.iconst 1, 1) := by decide +kernel
theorem dX10_keep_89 : decode cX10_keep 89 = .ok (.if_icmp .ne 8, 3) := by decide +kernel
theorem dX10_keep_92 : decode cX10_keep 92 = .ok (.iload 4, 2) := by decide +kernel
theorem dX10_keep_94 : decode cX10_keep 94 = .ok (.goto 4, 3) := by decide +kernel
theorem dX10_keep_97 : decode cX10_keep 97 = .ok (.iconst 0, 1) := by decide +kernel
theorem dX10_keep_98 : decode cX10_keep 98 = .ok (.iastore, 1) := by decide +kernel
theorem dX10_keep_99 : decode cX10_keep 99 = .ok (.iconst 0, 1) := by decide +kernel
theorem dX10_keep_100 : decode cX10_keep 100 = .ok (.ireturn, 1) := by decide +kernel
theorem dX10_wrongRow_0 : decode cX10_wrongRow 0 = .ok (.iload_n 1, 1) := by decide +kernel
theorem dX10_wrongRow_1 : decode cX10_wrongRow 1 = .ok (.i2l, 1) := by decide +kernel
theorem dX10_wrongRow_2 : decode cX10_wrongRow 2 = .ok (.lconst 0, 1) := by decide +kernel
theorem dX10_wrongRow_3 : decode cX10_wrongRow 3 = .ok (.ldc2_w 253, 3) := by decide +kernel
theorem dX10_wrongRow_6 : decode cX10_wrongRow 6 = .ok (.invokestatic 84, 3) := by decide +kernel
theorem dX10_wrongRow_9 : decode cX10_wrongRow 9 = .ok (.ifCond .ne 7, 3) := by decide +kernel
theorem dX10_wrongRow_12 : decode cX10_wrongRow 12 = .ok (.iconst (-1), 1) := by decide +kernel
theorem dX10_wrongRow_13 : decode cX10_wrongRow 13 = .ok (.goto 33, 3) := by decide +kernel
theorem dX10_wrongRow_16 : decode cX10_wrongRow 16 = .ok (.aload_n 0, 1) := by decide +kernel
theorem dX10_wrongRow_17 : decode cX10_wrongRow 17 = .ok (.getfield 26, 3) := by decide +kernel
theorem dX10_wrongRow_20 : decode cX10_wrongRow 20 = .ok (.iload_n 1, 1) := by decide +kernel
theorem dX10_wrongRow_21 : decode cX10_wrongRow 21 = .ok (.iaload, 1) := by decide +kernel
theorem dX10_wrongRow_22 : decode cX10_wrongRow 22 = .ok (.ifCond .ne 8, 3) := by decide +kernel
theorem dX10_wrongRow_25 : decode cX10_wrongRow 25 = .ok (.bipush (-11), 2) := by decide +kernel
theorem dX10_wrongRow_27 : decode cX10_wrongRow 27 = .ok (.goto 19, 3) := by decide +kernel
theorem dX10_wrongRow_30 : decode cX10_wrongRow 30 = .ok (.aload_n 0, 1) := by decide +kernel
theorem dX10_wrongRow_31 : decode cX10_wrongRow 31 = .ok (.getfield 26, 3) := by decide +kernel
theorem dX10_wrongRow_34 : decode cX10_wrongRow 34 = .ok (.iload_n 1, 1) := by decide +kernel
theorem dX10_wrongRow_35 : decode cX10_wrongRow 35 = .ok (.iaload, 1) := by decide +kernel
theorem dX10_wrongRow_36 : decode cX10_wrongRow 36 = .ok (.iconst 2, 1) := by decide +kernel
theorem dX10_wrongRow_37 : decode cX10_wrongRow 37 = .ok (.if_icmp .eq 8, 3) := by decide +kernel
theorem dX10_wrongRow_40 : decode cX10_wrongRow 40 = .ok (.bipush (-12), 2) := by decide +kernel
theorem dX10_wrongRow_42 : decode cX10_wrongRow 42 = .ok (.goto 4, 3) := by decide +kernel
theorem dX10_wrongRow_45 : decode cX10_wrongRow 45 = .ok (.iconst 0, 1) := by decide +kernel
theorem dX10_wrongRow_46 : decode cX10_wrongRow 46 = .ok (.ireturn, 1) := by decide +kernel
theorem dX10_narrowed_0 : decode cX10_narrowed 0 = .ok (.iload_n 1, 1) := by decide +kernel
theorem dX10_narrowed_1 : decode cX10_narrowed 1 = .ok (.ifCond .ne 9, 3) := by decide +kernel
theorem dX10_narrowed_4 : decode cX10_narrowed 4 = .ok (.iload_n 0, 1) := by decide +kernel
theorem dX10_narrowed_5 : decode cX10_narrowed 5 = .ok (.i2b, 1) := by decide +kernel
theorem dX10_narrowed_6 : decode cX10_narrowed 6 = .ok (.i2l, 1) := by decide +kernel
theorem dX10_narrowed_7 : decode cX10_narrowed 7 = .ok (.goto 16, 3) := by decide +kernel
theorem dX10_narrowed_10 : decode cX10_narrowed 10 = .ok (.iload_n 1, 1) := by decide +kernel
theorem dX10_narrowed_11 : decode cX10_narrowed 11 = .ok (.iconst 1, 1) := by decide +kernel
theorem dX10_narrowed_12 : decode cX10_narrowed 12 = .ok (.if_icmp .ne 9, 3) := by decide +kernel
theorem dX10_narrowed_15 : decode cX10_narrowed 15 = .ok (.iload_n 0, 1) := by decide +kernel
theorem dX10_narrowed_16 : decode cX10_narrowed 16 = .ok (.i2s, 1) := by decide +kernel
theorem dX10_narrowed_17 : decode cX10_narrowed 17 = .ok (.i2l, 1) := by decide +kernel
theorem dX10_narrowed_18 : decode cX10_narrowed 18 = .ok (.goto 5, 3) := by decide +kernel
theorem dX10_narrowed_21 : decode cX10_narrowed 21 = .ok (.iload_n 0, 1) := by decide +kernel
theorem dX10_narrowed_22 : decode cX10_narrowed 22 = .ok (.i2l, 1) := by decide +kernel
theorem dX10_narrowed_23 : decode cX10_narrowed 23 = .ok (.lreturn, 1) := by decide +kernel
theorem dX10_row_0 : decode cX10_row 0 = .ok (.aload_n 0, 1) := by decide +kernel
theorem dX10_row_1 : decode cX10_row 1 = .ok (.iconst 0, 1) := by decide +kernel
theorem dX10_row_2 : decode cX10_row 2 = .ok (.putfield 78, 3) := by decide +kernel
theorem dX10_row_5 : decode cX10_row 5 = .ok (.iload_n 1, 1) := by decide +kernel
theorem dX10_row_6 : decode cX10_row 6 = .ok (.i2l, 1) := by decide +kernel
theorem dX10_row_7 : decode cX10_row 7 = .ok (.lconst 0, 1) := by decide +kernel
theorem dX10_row_8 : decode cX10_row 8 = .ok (.ldc2_w 253, 3) := by decide +kernel
theorem dX10_row_11 : decode cX10_row 11 = .ok (.invokestatic 84, 3) := by decide +kernel
theorem dX10_row_14 : decode cX10_row 14 = .ok (.ifCond .eq 21, 3) := by decide +kernel
theorem dX10_row_17 : decode cX10_row 17 = .ok (.iload_n 2, 1) := by decide +kernel
theorem dX10_row_18 : decode cX10_row 18 = .ok (.i2l, 1) := by decide +kernel
theorem dX10_row_19 : decode cX10_row 19 = .ok (.lconst 0, 1) := by decide +kernel
theorem dX10_row_20 : decode cX10_row 20 = .ok (.ldc2_w 267, 3) := by decide +kernel
theorem dX10_row_23 : decode cX10_row 23 = .ok (.invokestatic 84, 3) := by decide +kernel
theorem dX10_row_26 : decode cX10_row 26 = .ok (.ifCond .eq 9, 3) := by decide +kernel
theorem dX10_row_29 : decode cX10_row 29 = .ok (.iload_n 3, 1) := by decide +kernel
theorem dX10_row_30 : decode cX10_row 30 = .ok (.bipush 100, 2) := by decide +kernel
theorem dX10_row_32 : decode cX10_row 32 = .ok (.if_icmp .le 5, 3) := by decide +kernel
theorem dX10_row_35 : decode cX10_row 35 = .ok (.iconst (-1), 1) := by decide +kernel
theorem dX10_row_36 : decode cX10_row 36 = .ok (.ireturn, 1) := by decide +kernel
theorem dX10_row_37 : decode cX10_row 37 = .ok (.iload_n 3, 1) := by decide +kernel
theorem dX10_row_38 : decode cX10_row 38 = .ok (.ifCond .ge 6, 3) := by decide +kernel
theorem dX10_row_41 : decode cX10_row 41 = .ok (.bipush (-14), 2) := by decide +kernel
theorem dX10_row_43 : decode cX10_row 43 = .ok (.ireturn, 1) := by decide +kernel
theorem dX10_row_44 : decode cX10_row 44 = .ok (.aload_n 0, 1) := by decide +kernel
theorem dX10_row_45 : decode cX10_row 45 = .ok (.getfield 26, 3) := by decide +kernel
theorem dX10_row_48 : decode cX10_row 48 = .ok (.iload_n 1, 1) := by decide +kernel
theorem dX10_row_49 : decode cX10_row 49 = .ok (.iconst 2, 1) := by decide +kernel
theorem dX10_row_50 : decode cX10_row 50 = .ok (.iastore, 1) := by decide +kernel
theorem dX10_row_51 : decode cX10_row 51 = .ok (.aload_n 0, 1) := by decide +kernel
theorem dX10_row_52 : decode cX10_row 52 = .ok (.getfield 35, 3) := by decide +kernel
theorem dX10_row_55 : decode cX10_row 55 = .ok (.iload_n 1, 1) := by decide +kernel
theorem dX10_row_56 : decode cX10_row 56 = .ok (.iload_n 2, 1) := by decide +kernel
theorem dX10_row_57 : decode cX10_row 57 = .ok (.iastore, 1) := by decide +kernel
theorem dX10_row_58 : decode cX10_row 58 = .ok (.aload_n 0, 1) := by decide +kernel
theorem dX10_row_59 : decode cX10_row 59 = .ok (.getfield 38, 3) := by decide +kernel
theorem dX10_row_62 : decode cX10_row 62 = .ok (.iload_n 1, 1) := by decide +kernel
theorem dX10_row_63 : decode cX10_row 63 = .ok (.iload_n 3, 1) := by decide +kernel
theorem dX10_row_64 : decode cX10_row 64 = .ok (.iastore, 1) := by decide +kernel
theorem dX10_row_65 : decode cX10_row 65 = .ok (.iconst 0, 1) := by decide +kernel
theorem dX10_row_66 : decode cX10_row 66 = .ok (.istore 4, 2) := by decide +kernel
theorem dX10_row_68 : decode cX10_row 68 = .ok (.iload 4, 2) := by decide +kernel
theorem dX10_row_70 : decode cX10_row 70 = .ok (.bipush 100, 2) := by decide +kernel
theorem dX10_row_72 : decode cX10_row 72 = .ok (.if_icmp .ge 22, 3) := by decide +kernel
theorem dX10_row_75 : decode cX10_row 75 = .ok (.aload_n 0, 1) := by decide +kernel
theorem dX10_row_76 : decode cX10_row 76 = .ok (.getfield 41, 3) := by decide +kernel
theorem dX10_row_79 : decode cX10_row 79 = .ok (.bipush 100, 2) := by decide +kernel
theorem dX10_row_81 : decode cX10_row 81 = .ok (.iload_n 1, 1) := by decide +kernel
theorem dX10_row_82 : decode cX10_row 82 = .ok (.imul, 1) := by decide +kernel
theorem dX10_row_83 : decode cX10_row 83 = .ok (.iload 4, 2) := by decide +kernel
theorem dX10_row_85 : decode cX10_row 85 = .ok (.iadd, 1) := by decide +kernel
theorem dX10_row_86 : decode cX10_row 86 = .ok (.lconst 0, 1) := by decide +kernel
theorem dX10_row_87 : decode cX10_row 87 = .ok (.lastore, 1) := by decide +kernel
theorem dX10_row_88 : decode cX10_row 88 = .ok (.iinc 4 1, 3) := by decide +kernel
theorem dX10_row_91 : decode cX10_row 91 = .ok (.goto (-23), 3) := by decide +kernel
theorem dX10_row_94 : decode cX10_row 94 = .ok (.iconst 0, 1) := by decide +kernel
theorem dX10_row_95 : decode cX10_row 95 = .ok (.ireturn, 1) := by decide +kernel
theorem dX10_put_0 : decode cX10_put 0 = .ok (.aload_n 0, 1) := by decide +kernel
theorem dX10_put_1 : decode cX10_put 1 = .ok (.iconst 0, 1) := by decide +kernel
theorem dX10_put_2 : decode cX10_put 2 = .ok (.putfield 78, 3) := by decide +kernel
theorem dX10_put_5 : decode cX10_put 5 = .ok (.aload_n 0, 1) := by decide +kernel
theorem dX10_put_6 : decode cX10_put 6 = .ok (.iload_n 1, 1) := by decide +kernel
theorem dX10_put_7 : decode cX10_put 7 = .ok (.invokevirtual 219, 3) := by decide +kernel
theorem dX10_put_10 : decode cX10_put 10 = .ok (.istore 4, 2) := by decide +kernel
theorem dX10_put_12 : decode cX10_put 12 = .ok (.iload 4, 2) := by decide +kernel
theorem dX10_put_14 : decode cX10_put 14 = .ok (.ifCond .ge 6, 3) := by decide +kernel
theorem dX10_put_17 : decode cX10_put 17 = .ok (.iload 4, 2) := by decide +kernel
theorem dX10_put_19 : decode cX10_put 19 = .ok (.ireturn, 1) := by decide +kernel
theorem dX10_put_20 : decode cX10_put 20 = .ok (.iload_n 2, 1) := by decide +kernel
theorem dX10_put_21 : decode cX10_put 21 = .ok (.i2l, 1) := by decide +kernel
theorem dX10_put_22 : decode cX10_put 22 = .ok (.lconst 0, 1) := by decide +kernel
theorem dX10_put_23 : decode cX10_put 23 = .ok (.aload_n 0, 1) := by decide +kernel
theorem dX10_put_24 : decode cX10_put 24 = .ok (.getfield 38, 3) := by decide +kernel
theorem dX10_put_27 : decode cX10_put 27 = .ok (.iload_n 1, 1) := by decide +kernel
theorem dX10_put_28 : decode cX10_put 28 = .ok (.iaload, 1) := by decide +kernel
theorem dX10_put_29 : decode cX10_put 29 = .ok (.iconst 1, 1) := by decide +kernel
theorem dX10_put_30 : decode cX10_put 30 = .ok (.isub, 1) := by decide +kernel
theorem dX10_put_31 : decode cX10_put 31 = .ok (.i2l, 1) := by decide +kernel
theorem dX10_put_32 : decode cX10_put 32 = .ok (.invokestatic 84, 3) := by decide +kernel
theorem dX10_put_35 : decode cX10_put 35 = .ok (.ifCond .ne 6, 3) := by decide +kernel
theorem dX10_put_38 : decode cX10_put 38 = .ok (.bipush (-13), 2) := by decide +kernel
theorem dX10_put_40 : decode cX10_put 40 = .ok (.ireturn, 1) := by decide +kernel
theorem dX10_put_41 : decode cX10_put 41 = .ok (.aload_n 0, 1) := by decide +kernel
theorem dX10_put_42 : decode cX10_put 42 = .ok (.getfield 41, 3) := by decide +kernel
theorem dX10_put_45 : decode cX10_put 45 = .ok (.bipush 100, 2) := by decide +kernel
theorem dX10_put_47 : decode cX10_put 47 = .ok (.iload_n 1, 1) := by decide +kernel
theorem dX10_put_48 : decode cX10_put 48 = .ok (.imul, 1) := by decide +kernel
theorem dX10_put_49 : decode cX10_put 49 = .ok (.iload_n 2, 1) := by decide +kernel
theorem dX10_put_50 : decode cX10_put 50 = .ok (.iadd, 1) := by decide +kernel
theorem dX10_put_51 : decode cX10_put 51 = .ok (.iload_n 3, 1) := by decide +kernel
theorem dX10_put_52 : decode cX10_put 52 = .ok (.aload_n 0, 1) := by decide +kernel
theorem dX10_put_53 : decode cX10_put 53 = .ok (.getfield 35, 3) := by decide +kernel
theorem dX10_put_56 : decode cX10_put 56 = .ok (.iload_n 1, 1) := by decide +kernel
theorem dX10_put_57 : decode cX10_put 57 = .ok (.iaload, 1) := by decide +kernel
theorem dX10_put_58 : decode cX10_put 58 = .ok (.invokestatic 364, 3) := by decide +kernel
theorem dX10_put_61 : decode cX10_put 61 = .ok (.lastore, 1) := by decide +kernel
theorem dX10_put_62 : decode cX10_put 62 = .ok (.iconst 0, 1) := by decide +kernel
theorem dX10_put_63 : decode cX10_put 63 = .ok (.ireturn, 1) := by decide +kernel
theorem dX10_element_0 : decode cX10_element 0 = .ok (.aload_n 0, 1) := by decide +kernel
theorem dX10_element_1 : decode cX10_element 1 = .ok (.iload_n 1, 1) := by decide +kernel
theorem dX10_element_2 : decode cX10_element 2 = .ok (.invokevirtual 219, 3) := by decide +kernel
theorem dX10_element_5 : decode cX10_element 5 = .ok (.istore_n 3, 1) := by decide +kernel
theorem dX10_element_6 : decode cX10_element 6 = .ok (.aload_n 0, 1) := by decide +kernel
theorem dX10_element_7 : decode cX10_element 7 = .ok (.iload_n 3, 1) := by decide +kernel
theorem dX10_element_8 : decode cX10_element 8 = .ok (.iconst (-1), 1) := by decide +kernel
theorem dX10_element_9 : decode cX10_element 9 = .ok (.if_icmp .ne 7, 3) := by decide +kernel
theorem dX10_element_12 : decode cX10_element 12 = .ok (.iconst 1, 1) := by decide +kernel
theorem dX10_element_13 : decode cX10_element 13 = .ok (.goto 30, 3) := by decide +kernel
theorem dX10_element_16 : decode cX10_element 16 = .ok (.iload_n 3, 1) := by decide +kernel
theorem dX10_element_17 : decode cX10_element 17 = .ok (.ifCond .lt 21, 3) := by decide +kernel
theorem dX10_element_20 : decode cX10_element 20 = .ok (.iload_n 2, 1) := by decide +kernel
theorem dX10_element_21 : decode cX10_element 21 = .ok (.i2l, 1) := by decide +kernel
theorem dX10_element_22 : decode cX10_element 22 = .ok (.lconst 0, 1) := by decide +kernel
theorem dX10_element_23 : decode cX10_element 23 = .ok (.aload_n 0, 1) := by decide +kernel
theorem dX10_element_24 : decode cX10_element 24 = .ok (.getfield 38, 3) := by decide +kernel
theorem dX10_element_27 : decode cX10_element 27 = .ok (.iload_n 1, 1) := by decide +kernel
theorem dX10_element_28 : decode cX10_element 28 = .ok (.iaload, 1) := by decide +kernel
theorem dX10_element_29 : decode cX10_element 29 = .ok (.iconst 1, 1) := by decide +kernel
theorem dX10_element_30 : decode cX10_element 30 = .ok (.isub, 1) := by decide +kernel
theorem dX10_element_31 : decode cX10_element 31 = .ok (.i2l, 1) := by decide +kernel
theorem dX10_element_32 : decode cX10_element 32 = .ok (.invokestatic 84, 3) := by decide +kernel
theorem dX10_element_35 : decode cX10_element 35 = .ok (.ifCond .ne 7, 3) := by decide +kernel
theorem dX10_element_38 : decode cX10_element 38 = .ok (.iconst 2, 1) := by decide +kernel
theorem dX10_element_39 : decode cX10_element 39 = .ok (.goto 4, 3) := by decide +kernel
theorem dX10_element_42 : decode cX10_element 42 = .ok (.iconst 0, 1) := by decide +kernel
theorem dX10_element_43 : decode cX10_element 43 = .ok (.putfield 78, 3) := by decide +kernel
theorem dX10_element_46 : decode cX10_element 46 = .ok (.aload_n 0, 1) := by decide +kernel
theorem dX10_element_47 : decode cX10_element 47 = .ok (.getfield 78, 3) := by decide +kernel
theorem dX10_element_50 : decode cX10_element 50 = .ok (.ifCond .le 7, 3) := by decide +kernel
theorem dX10_element_53 : decode cX10_element 53 = .ok (.lconst 0, 1) := by decide +kernel
theorem dX10_element_54 : decode cX10_element 54 = .ok (.goto 14, 3) := by decide +kernel
theorem dX10_element_57 : decode cX10_element 57 = .ok (.aload_n 0, 1) := by decide +kernel
theorem dX10_element_58 : decode cX10_element 58 = .ok (.getfield 41, 3) := by decide +kernel
theorem dX10_element_61 : decode cX10_element 61 = .ok (.bipush 100, 2) := by decide +kernel
theorem dX10_element_63 : decode cX10_element 63 = .ok (.iload_n 1, 1) := by decide +kernel
theorem dX10_element_64 : decode cX10_element 64 = .ok (.imul, 1) := by decide +kernel
theorem dX10_element_65 : decode cX10_element 65 = .ok (.iload_n 2, 1) := by decide +kernel
theorem dX10_element_66 : decode cX10_element 66 = .ok (.iadd, 1) := by decide +kernel
theorem dX10_element_67 : decode cX10_element 67 = .ok (.laload, 1) := by decide +kernel
theorem dX10_element_68 : decode cX10_element 68 = .ok (.lreturn, 1) := by decide +kernel
theorem dX10_copy_0 : decode cX10_copy 0 = .ok (.aload_n 0, 1) := by decide +kernel
theorem dX10_copy_1 : decode cX10_copy 1 = .ok (.iconst 0, 1) := by decide +kernel
theorem dX10_copy_2 : decode cX10_copy 2 = .ok (.putfield 78, 3) := by decide +kernel
theorem dX10_copy_5 : decode cX10_copy 5 = .ok (.iload_n 1, 1) := by decide +kernel
theorem dX10_copy_6 : decode cX10_copy 6 = .ok (.i2l, 1) := by decide +kernel
theorem dX10_copy_7 : decode cX10_copy 7 = .ok (.lconst 0, 1) := by decide +kernel
theorem dX10_copy_8 : decode cX10_copy 8 = .ok (.ldc2_w 253, 3) := by decide +kernel
theorem dX10_copy_11 : decode cX10_copy 11 = .ok (.invokestatic 84, 3) := by decide +kernel
theorem dX10_copy_14 : decode cX10_copy 14 = .ok (.ifCond .eq 15, 3) := by decide +kernel
theorem dX10_copy_17 : decode cX10_copy 17 = .ok (.iload_n 3, 1) := by decide +kernel
theorem dX10_copy_18 : decode cX10_copy 18 = .ok (.i2l, 1) := by decide +kernel
theorem dX10_copy_19 : decode cX10_copy 19 = .ok (.lconst 0, 1) := by decide +kernel
theorem dX10_copy_20 : decode cX10_copy 20 = .ok (.ldc2_w 253, 3) := by decide +kernel
theorem dX10_copy_23 : decode cX10_copy 23 = .ok (.invokestatic 84, 3) := by decide +kernel
theorem dX10_copy_26 : decode cX10_copy 26 = .ok (.ifCond .ne 5, 3) := by decide +kernel
theorem dX10_copy_29 : decode cX10_copy 29 = .ok (.iconst (-1), 1) := by decide +kernel
theorem dX10_copy_30 : decode cX10_copy 30 = .ok (.ireturn, 1) := by decide +kernel
theorem dX10_copy_31 : decode cX10_copy 31 = .ok (.aload_n 0, 1) := by decide +kernel
theorem dX10_copy_32 : decode cX10_copy 32 = .ok (.getfield 26, 3) := by decide +kernel
theorem dX10_copy_35 : decode cX10_copy 35 = .ok (.iload_n 1, 1) := by decide +kernel
theorem dX10_copy_36 : decode cX10_copy 36 = .ok (.iaload, 1) := by decide +kernel
theorem dX10_copy_37 : decode cX10_copy 37 = .ok (.ifCond .eq 12, 3) := by decide +kernel
theorem dX10_copy_40 : decode cX10_copy 40 = .ok (.aload_n 0, 1) := by decide +kernel
theorem dX10_copy_41 : decode cX10_copy 41 = .ok (.getfield 26, 3) := by decide +kernel
theorem dX10_copy_44 : decode cX10_copy 44 = .ok (.iload_n 3, 1) := by decide +kernel
theorem dX10_copy_45 : decode cX10_copy 45 = .ok (.iaload, 1) := by decide +kernel
theorem dX10_copy_46 : decode cX10_copy 46 = .ok (.ifCond .ne 6, 3) := by decide +kernel
theorem dX10_copy_49 : decode cX10_copy 49 = .ok (.bipush (-11), 2) := by decide +kernel
theorem dX10_copy_51 : decode cX10_copy 51 = .ok (.ireturn, 1) := by decide +kernel
theorem dX10_copy_52 : decode cX10_copy 52 = .ok (.aload_n 0, 1) := by decide +kernel
theorem dX10_copy_53 : decode cX10_copy 53 = .ok (.getfield 26, 3) := by decide +kernel
theorem dX10_copy_56 : decode cX10_copy 56 = .ok (.iload_n 1, 1) := by decide +kernel
theorem dX10_copy_57 : decode cX10_copy 57 = .ok (.iaload, 1) := by decide +kernel
theorem dX10_copy_58 : decode cX10_copy 58 = .ok (.iconst 2, 1) := by decide +kernel
theorem dX10_copy_59 : decode cX10_copy 59 = .ok (.if_icmp .ne 28, 3) := by decide +kernel
theorem dX10_copy_62 : decode cX10_copy 62 = .ok (.aload_n 0, 1) := by decide +kernel
theorem dX10_copy_63 : decode cX10_copy 63 = .ok (.getfield 26, 3) := by decide +kernel
theorem dX10_copy_66 : decode cX10_copy 66 = .ok (.iload_n 3, 1) := by decide +kernel
theorem dX10_copy_67 : decode cX10_copy 67 = .ok (.iaload, 1) := by decide +kernel
theorem dX10_copy_68 : decode cX10_copy 68 = .ok (.iconst 2, 1) := by decide +kernel
theorem dX10_copy_69 : decode cX10_copy 69 = .ok (.if_icmp .ne 18, 3) := by decide +kernel
theorem dX10_copy_72 : decode cX10_copy 72 = .ok (.aload_n 0, 1) := by decide +kernel
theorem dX10_copy_73 : decode cX10_copy 73 = .ok (.getfield 35, 3) := by decide +kernel
theorem dX10_copy_76 : decode cX10_copy 76 = .ok (.iload_n 1, 1) := by decide +kernel
theorem dX10_copy_77 : decode cX10_copy 77 = .ok (.iaload, 1) := by decide +kernel
theorem dX10_copy_78 : decode cX10_copy 78 = .ok (.aload_n 0, 1) := by decide +kernel
theorem dX10_copy_79 : decode cX10_copy 79 = .ok (.getfield 35, 3) := by decide +kernel
theorem dX10_copy_82 : decode cX10_copy 82 = .ok (.iload_n 3, 1) := by decide +kernel
theorem dX10_copy_83 : decode cX10_copy 83 = .ok (.iaload, 1) := by decide +kernel
theorem dX10_copy_84 : decode cX10_copy 84 = .ok (.if_icmp .eq 6, 3) := by decide +kernel
theorem dX10_copy_87 : decode cX10_copy 87 = .ok (.bipush (-12), 2) := by decide +kernel
theorem dX10_copy_89 : decode cX10_copy 89 = .ok (.ireturn, 1) := by decide +kernel
theorem dX10_copy_90 : decode cX10_copy 90 = .ok (.iload 5, 2) := by decide +kernel
theorem dX10_copy_92 : decode cX10_copy 92 = .ok (.ifCond .lt 39, 3) := by decide +kernel
theorem dX10_copy_95 : decode cX10_copy 95 = .ok (.iload_n 2, 1) := by decide +kernel
theorem dX10_copy_96 : decode cX10_copy 96 = .ok (.ifCond .lt 35, 3) := by decide +kernel
theorem dX10_copy_99 : decode cX10_copy 99 = .ok (.iload 4, 2) := by decide +kernel
theorem dX10_copy_101 : decode cX10_copy 101 = .ok (.ifCond .lt 30, 3) := by decide +kernel
theorem dX10_copy_104 : decode cX10_copy 104 = .ok (.iload_n 2, 1) := by decide +kernel
theorem dX10_copy_105 : decode cX10_copy 105 = .ok (.aload_n 0, 1) := by decide +kernel
theorem dX10_copy_106 : decode cX10_copy 106 = .ok (.getfield 38, 3) := by decide +kernel
theorem dX10_copy_109 : decode cX10_copy 109 = .ok (.iload_n 1, 1) := by decide +kernel
theorem dX10_copy_110 : decode cX10_copy 110 = .ok (.iaload, 1) := by decide +kernel
theorem dX10_copy_111 : decode cX10_copy 111 = .ok (.iload 5, 2) := by decide +kernel
theorem dX10_copy_113 : decode cX10_copy 113 = .ok (.isub, 1) := by decide +kernel
theorem dX10_copy_114 : decode cX10_copy 114 = .ok (.if_icmp .gt 17, 3) := by decide +kernel
theorem dX10_copy_117 : decode cX10_copy 117 = .ok (.iload 4, 2) := by decide +kernel
theorem dX10_copy_119 : decode cX10_copy 119 = .ok (.aload_n 0, 1) := by decide +kernel
theorem dX10_copy_120 : decode cX10_copy 120 = .ok (.getfield 38, 3) := by decide +kernel
theorem dX10_copy_123 : decode cX10_copy 123 = .ok (.iload_n 3, 1) := by decide +kernel
theorem dX10_copy_124 : decode cX10_copy 124 = .ok (.iaload, 1) := by decide +kernel
theorem dX10_copy_125 : decode cX10_copy 125 = .ok (.iload 5, 2) := by decide +kernel
theorem dX10_copy_127 : decode cX10_copy 127 = .ok (.isub, 1) := by decide +kernel
theorem dX10_copy_128 : decode cX10_copy 128 = .ok (.if_icmp .le 6, 3) := by decide +kernel
theorem dX10_copy_131 : decode cX10_copy 131 = .ok (.bipush (-13), 2) := by decide +kernel
theorem dX10_copy_133 : decode cX10_copy 133 = .ok (.ireturn, 1) := by decide +kernel
theorem dX10_copy_134 : decode cX10_copy 134 = .ok (.iconst 0, 1) := by decide +kernel
theorem dX10_copy_135 : decode cX10_copy 135 = .ok (.istore 6, 2) := by decide +kernel
theorem dX10_copy_137 : decode cX10_copy 137 = .ok (.iload 6, 2) := by decide +kernel
theorem dX10_copy_139 : decode cX10_copy 139 = .ok (.iload 5, 2) := by decide +kernel
theorem dX10_copy_141 : decode cX10_copy 141 = .ok (.if_icmp .ge 30, 3) := by decide +kernel
theorem dX10_copy_144 : decode cX10_copy 144 = .ok (.aload_n 0, 1) := by decide +kernel
theorem dX10_copy_145 : decode cX10_copy 145 = .ok (.getfield 75, 3) := by decide +kernel
theorem dX10_copy_148 : decode cX10_copy 148 = .ok (.iload 6, 2) := by decide +kernel
theorem dX10_copy_150 : decode cX10_copy 150 = .ok (.aload_n 0, 1) := by decide +kernel
theorem dX10_copy_151 : decode cX10_copy 151 = .ok (.getfield 41, 3) := by decide +kernel
theorem dX10_copy_154 : decode cX10_copy 154 = .ok (.bipush 100, 2) := by decide +kernel
theorem dX10_copy_156 : decode cX10_copy 156 = .ok (.iload_n 1, 1) := by decide +kernel
theorem dX10_copy_157 : decode cX10_copy 157 = .ok (.imul, 1) := by decide +kernel
theorem dX10_copy_158 : decode cX10_copy 158 = .ok (.iload_n 2, 1) := by decide +kernel
theorem dX10_copy_159 : decode cX10_copy 159 = .ok (.iadd, 1) := by decide +kernel
theorem dX10_copy_160 : decode cX10_copy 160 = .ok (.iload 6, 2) := by decide +kernel
theorem dX10_copy_162 : decode cX10_copy 162 = .ok (.iadd, 1) := by decide +kernel
theorem dX10_copy_163 : decode cX10_copy 163 = .ok (.laload, 1) := by decide +kernel
theorem dX10_copy_164 : decode cX10_copy 164 = .ok (.lastore, 1) := by decide +kernel
theorem dX10_copy_165 : decode cX10_copy 165 = .ok (.iinc 6 1, 3) := by decide +kernel
theorem dX10_copy_168 : decode cX10_copy 168 = .ok (.goto (-31), 3) := by decide +kernel
theorem dX10_copy_171 : decode cX10_copy 171 = .ok (.iconst 0, 1) := by decide +kernel
theorem dX10_copy_172 : decode cX10_copy 172 = .ok (.istore 6, 2) := by decide +kernel
theorem dX10_copy_174 : decode cX10_copy 174 = .ok (.iload 6, 2) := by decide +kernel
theorem dX10_copy_176 : decode cX10_copy 176 = .ok (.iload 5, 2) := by decide +kernel
theorem dX10_copy_178 : decode cX10_copy 178 = .ok (.if_icmp .ge 31, 3) := by decide +kernel
theorem dX10_copy_181 : decode cX10_copy 181 = .ok (.aload_n 0, 1) := by decide +kernel
theorem dX10_copy_182 : decode cX10_copy 182 = .ok (.getfield 41, 3) := by decide +kernel
theorem dX10_copy_185 : decode cX10_copy 185 = .ok (.bipush 100, 2) := by decide +kernel
theorem dX10_copy_187 : decode cX10_copy 187 = .ok (.iload_n 3, 1) := by decide +kernel
theorem dX10_copy_188 : decode cX10_copy 188 = .ok (.imul, 1) := by decide +kernel
theorem dX10_copy_189 : decode cX10_copy 189 = .ok (.iload 4, 2) := by decide +kernel
theorem dX10_copy_191 : decode cX10_copy 191 = .ok (.iadd, 1) := by decide +kernel
theorem dX10_copy_192 : decode cX10_copy 192 = .ok (.iload 6, 2) := by decide +kernel
theorem dX10_copy_194 : decode cX10_copy 194 = .ok (.iadd, 1) := by decide +kernel
theorem dX10_copy_195 : decode cX10_copy 195 = .ok (.aload_n 0, 1) := by decide +kernel
theorem dX10_copy_196 : decode cX10_copy 196 = .ok (.getfield 75, 3) := by decide +kernel
theorem dX10_copy_199 : decode cX10_copy 199 = .ok (.iload 6, 2) := by decide +kernel
theorem dX10_copy_201 : decode cX10_copy 201 = .ok (.laload, 1) := by decide +kernel
theorem dX10_copy_202 : decode cX10_copy 202 = .ok (.lastore, 1) := by decide +kernel
theorem dX10_copy_203 : decode cX10_copy 203 = .ok (.iinc 6 1, 3) := by decide +kernel
theorem dX10_copy_206 : decode cX10_copy 206 = .ok (.goto (-32), 3) := by decide +kernel
theorem dX10_copy_209 : decode cX10_copy 209 = .ok (.iload 5, 2) := by decide +kernel
theorem dX10_copy_211 : decode cX10_copy 211 = .ok (.ireturn, 1) := by decide +kernel
theorem dX10_costOf_0 : decode cX10_costOf 0 = .ok (.iload_n 0, 1) := by decide +kernel
theorem dX10_costOf_1 : decode cX10_costOf 1 = .ok (.tableswitch 62 0 6 #[43, 45, 47, 51, 53, 56, 60], 43) := by decide +kernel
theorem dX10_costOf_44 : decode cX10_costOf 44 = .ok (.iload_n 1, 1) := by decide +kernel
theorem dX10_costOf_45 : decode cX10_costOf 45 = .ok (.ireturn, 1) := by decide +kernel
theorem dX10_costOf_46 : decode cX10_costOf 46 = .ok (.iconst 1, 1) := by decide +kernel
theorem dX10_costOf_47 : decode cX10_costOf 47 = .ok (.ireturn, 1) := by decide +kernel
theorem dX10_costOf_48 : decode cX10_costOf 48 = .ok (.iconst 2, 1) := by decide +kernel
theorem dX10_costOf_49 : decode cX10_costOf 49 = .ok (.iload_n 1, 1) := by decide +kernel
theorem dX10_costOf_50 : decode cX10_costOf 50 = .ok (.iadd, 1) := by decide +kernel
theorem dX10_costOf_51 : decode cX10_costOf 51 = .ok (.ireturn, 1) := by decide +kernel
theorem dX10_costOf_52 : decode cX10_costOf 52 = .ok (.iconst 0, 1) := by decide +kernel
theorem dX10_costOf_53 : decode cX10_costOf 53 = .ok (.ireturn, 1) := by decide +kernel
theorem dX10_costOf_54 : decode cX10_costOf 54 = .ok (.bipush 7, 2) := by decide +kernel
theorem dX10_costOf_56 : decode cX10_costOf 56 = .ok (.ireturn, 1) := by decide +kernel
theorem dX10_costOf_57 : decode cX10_costOf 57 = .ok (.iconst 2, 1) := by decide +kernel
theorem dX10_costOf_58 : decode cX10_costOf 58 = .ok (.iload_n 1, 1) := by decide +kernel
theorem dX10_costOf_59 : decode cX10_costOf 59 = .ok (.imul, 1) := by decide +kernel
theorem dX10_costOf_60 : decode cX10_costOf 60 = .ok (.ireturn, 1) := by decide +kernel
theorem dX10_costOf_61 : decode cX10_costOf 61 = .ok (.iconst 3, 1) := by decide +kernel
theorem dX10_costOf_62 : decode cX10_costOf 62 = .ok (.ireturn, 1) := by decide +kernel
theorem dX10_costOf_63 : decode cX10_costOf 63 = .ok (.iconst 2, 1) := by decide +kernel
theorem dX10_costOf_64 : decode cX10_costOf 64 = .ok (.iload_n 1, 1) := by decide +kernel
theorem dX10_costOf_65 : decode cX10_costOf 65 = .ok (.imul, 1) := by decide +kernel
theorem dX10_costOf_66 : decode cX10_costOf 66 = .ok (.iconst 1, 1) := by decide +kernel
theorem dX10_costOf_67 : decode cX10_costOf 67 = .ok (.iadd, 1) := by decide +kernel
theorem dX10_costOf_68 : decode cX10_costOf 68 = .ok (.ireturn, 1) := by decide +kernel
theorem dX10_cost_0 : decode cX10_cost 0 = .ok (.aload_n 0, 1) := by decide +kernel
theorem dX10_cost_1 : decode cX10_cost 1 = .ok (.iconst 0, 1) := by decide +kernel
theorem dX10_cost_2 : decode cX10_cost 2 = .ok (.putfield 78, 3) := by decide +kernel
theorem dX10_cost_5 : decode cX10_cost 5 = .ok (.aload_n 0, 1) := by decide +kernel
theorem dX10_cost_6 : decode cX10_cost 6 = .ok (.iload_n 1, 1) := by decide +kernel
theorem dX10_cost_7 : decode cX10_cost 7 = .ok (.invokevirtual 255, 3) := by decide +kernel
theorem dX10_cost_10 : decode cX10_cost 10 = .ok (.ifCond .ge 11, 3) := by decide +kernel
theorem dX10_cost_13 : decode cX10_cost 13 = .ok (.aload_n 0, 1) := by decide +kernel
theorem dX10_cost_14 : decode cX10_cost 14 = .ok (.iload_n 1, 1) := by decide +kernel
theorem dX10_cost_15 : decode cX10_cost 15 = .ok (.invokevirtual 255, 3) := by decide +kernel
theorem dX10_cost_18 : decode cX10_cost 18 = .ok (.goto 18, 3) := by decide +kernel
theorem dX10_cost_21 : decode cX10_cost 21 = .ok (.aload_n 0, 1) := by decide +kernel
theorem dX10_cost_22 : decode cX10_cost 22 = .ok (.getfield 29, 3) := by decide +kernel
theorem dX10_cost_25 : decode cX10_cost 25 = .ok (.iload_n 1, 1) := by decide +kernel
theorem dX10_cost_26 : decode cX10_cost 26 = .ok (.iaload, 1) := by decide +kernel
theorem dX10_cost_27 : decode cX10_cost 27 = .ok (.aload_n 0, 1) := by decide +kernel
theorem dX10_cost_28 : decode cX10_cost 28 = .ok (.getfield 32, 3) := by decide +kernel
theorem dX10_cost_31 : decode cX10_cost 31 = .ok (.iload_n 1, 1) := by decide +kernel
theorem dX10_cost_32 : decode cX10_cost 32 = .ok (.iaload, 1) := by decide +kernel
theorem dX10_cost_33 : decode cX10_cost 33 = .ok (.invokestatic 368, 3) := by decide +kernel
theorem dX10_cost_36 : decode cX10_cost 36 = .ok (.ireturn, 1) := by decide +kernel
theorem dX10_toss_0 : decode cX10_toss 0 = .ok (.aload_n 0, 1) := by decide +kernel
theorem dX10_toss_1 : decode cX10_toss 1 = .ok (.iconst 0, 1) := by decide +kernel
theorem dX10_toss_2 : decode cX10_toss 2 = .ok (.putfield 78, 3) := by decide +kernel
theorem dX10_toss_5 : decode cX10_toss 5 = .ok (.aload_n 0, 1) := by decide +kernel
theorem dX10_toss_6 : decode cX10_toss 6 = .ok (.iload_n 1, 1) := by decide +kernel
theorem dX10_toss_7 : decode cX10_toss 7 = .ok (.invokevirtual 255, 3) := by decide +kernel
theorem dX10_toss_10 : decode cX10_toss 10 = .ok (.ifCond .ge 9, 3) := by decide +kernel
theorem dX10_toss_13 : decode cX10_toss 13 = .ok (.aload_n 0, 1) := by decide +kernel
theorem dX10_toss_14 : decode cX10_toss 14 = .ok (.iload_n 1, 1) := by decide +kernel
theorem dX10_toss_15 : decode cX10_toss 15 = .ok (.invokevirtual 255, 3) := by decide +kernel
theorem dX10_toss_18 : decode cX10_toss 18 = .ok (.ireturn, 1) := by decide +kernel
theorem dX10_toss_19 : decode cX10_toss 19 = .ok (.aload_n 0, 1) := by decide +kernel
theorem dX10_toss_20 : decode cX10_toss 20 = .ok (.getfield 29, 3) := by decide +kernel
theorem dX10_toss_23 : decode cX10_toss 23 = .ok (.iload_n 1, 1) := by decide +kernel
theorem dX10_toss_24 : decode cX10_toss 24 = .ok (.iaload, 1) := by decide +kernel
theorem dX10_toss_25 : decode cX10_toss 25 = .ok (.istore_n 2, 1) := by decide +kernel
theorem dX10_toss_26 : decode cX10_toss 26 = .ok (.aload_n 0, 1) := by decide +kernel
theorem dX10_toss_27 : decode cX10_toss 27 = .ok (.getfield 32, 3) := by decide +kernel
theorem dX10_toss_30 : decode cX10_toss 30 = .ok (.iload_n 1, 1) := by decide +kernel
theorem dX10_toss_31 : decode cX10_toss 31 = .ok (.iaload, 1) := by decide +kernel
theorem dX10_toss_32 : decode cX10_toss 32 = .ok (.istore_n 3, 1) := by decide +kernel
theorem dX10_toss_33 : decode cX10_toss 33 = .ok (.iload_n 2, 1) := by decide +kernel
theorem dX10_toss_34 : decode cX10_toss 34 = .ok (.iconst 2, 1) := by decide +kernel
theorem dX10_toss_35 : decode cX10_toss 35 = .ok (.if_icmp .eq 18, 3) := by decide +kernel
theorem dX10_toss_38 : decode cX10_toss 38 = .ok (.iload_n 2, 1) := by decide +kernel
theorem dX10_toss_39 : decode cX10_toss 39 = .ok (.iconst 3, 1) := by decide +kernel
theorem dX10_toss_40 : decode cX10_toss 40 = .ok (.if_icmp .eq 13, 3) := by decide +kernel
theorem dX10_toss_43 : decode cX10_toss 43 = .ok (.iload_n 2, 1) := by decide +kernel
theorem dX10_toss_44 : decode cX10_toss 44 = .ok (.bipush 6, 2) := by decide +kernel
theorem dX10_toss_46 : decode cX10_toss 46 = .ok (.if_icmp .eq 7, 3) := by decide +kernel
theorem dX10_toss_49 : decode cX10_toss 49 = .ok (.iload_n 3, 1) := by decide +kernel
theorem dX10_toss_50 : decode cX10_toss 50 = .ok (.ifCond .ne 6, 3) := by decide +kernel
theorem dX10_toss_53 : decode cX10_toss 53 = .ok (.bipush (-15), 2) := by decide +kernel
theorem dX10_toss_55 : decode cX10_toss 55 = .ok (.ireturn, 1) := by decide +kernel
theorem dX10_toss_56 : decode cX10_toss 56 = .ok (.iload_n 2, 1) := by decide +kernel
theorem dX10_toss_57 : decode cX10_toss 57 = .ok (.iconst 4, 1) := by decide +kernel
theorem dX10_toss_58 : decode cX10_toss 58 = .ok (.if_icmp .ne 10, 3) := by decide +kernel
theorem dX10_toss_61 : decode cX10_toss 61 = .ok (.bipush 100, 2) := by decide +kernel
theorem dX10_toss_63 : decode cX10_toss 63 = .ok (.iload_n 3, 1) := by decide +kernel
theorem dX10_toss_64 : decode cX10_toss 64 = .ok (.iadd, 1) := by decide +kernel
theorem dX10_toss_65 : decode cX10_toss 65 = .ok (.goto 27, 3) := by decide +kernel
theorem dX10_toss_68 : decode cX10_toss 68 = .ok (.iload_n 2, 1) := by decide +kernel
theorem dX10_toss_69 : decode cX10_toss 69 = .ok (.iconst 5, 1) := by decide +kernel
theorem dX10_toss_70 : decode cX10_toss 70 = .ok (.if_icmp .eq 9, 3) := by decide +kernel
theorem dX10_toss_73 : decode cX10_toss 73 = .ok (.iload_n 2, 1) := by decide +kernel
theorem dX10_toss_74 : decode cX10_toss 74 = .ok (.bipush 7, 2) := by decide +kernel
theorem dX10_toss_76 : decode cX10_toss 76 = .ok (.if_icmp .ne 15, 3) := by decide +kernel
theorem dX10_toss_79 : decode cX10_toss 79 = .ok (.sipush 200, 3) := by decide +kernel
theorem dX10_toss_82 : decode cX10_toss 82 = .ok (.iload_n 2, 1) := by decide +kernel
theorem dX10_toss_83 : decode cX10_toss 83 = .ok (.iload_n 3, 1) := by decide +kernel
theorem dX10_toss_84 : decode cX10_toss 84 = .ok (.invokestatic 368, 3) := by decide +kernel
theorem dX10_toss_87 : decode cX10_toss 87 = .ok (.iadd, 1) := by decide +kernel
theorem dX10_toss_88 : decode cX10_toss 88 = .ok (.goto 4, 3) := by decide +kernel
theorem dX10_toss_91 : decode cX10_toss 91 = .ok (.iload_n 3, 1) := by decide +kernel
theorem dX10_toss_92 : decode cX10_toss 92 = .ok (.ireturn, 1) := by decide +kernel
theorem dJ6_bitCount_0f7a4_0 : decode cJ6_bitCount_0f7a4 0 = .ok (.iload_n 0, 1) := by decide +kernel
theorem dJ6_bitCount_0f7a4_1 : decode cJ6_bitCount_0f7a4 1 = .ok (.iload_n 0, 1) := by decide +kernel
theorem dJ6_bitCount_0f7a4_2 : decode cJ6_bitCount_0f7a4 2 = .ok (.iconst 1, 1) := by decide +kernel
theorem dJ6_bitCount_0f7a4_3 : decode cJ6_bitCount_0f7a4 3 = .ok (.iushr, 1) := by decide +kernel
theorem dJ6_bitCount_0f7a4_4 : decode cJ6_bitCount_0f7a4 4 = .ok (.ldc_w 265, 3) := by decide +kernel
theorem dJ6_bitCount_0f7a4_7 : decode cJ6_bitCount_0f7a4 7 = .ok (.iand, 1) := by decide +kernel
theorem dJ6_bitCount_0f7a4_8 : decode cJ6_bitCount_0f7a4 8 = .ok (.isub, 1) := by decide +kernel
theorem dJ6_bitCount_0f7a4_9 : decode cJ6_bitCount_0f7a4 9 = .ok (.istore_n 0, 1) := by decide +kernel
theorem dJ6_bitCount_0f7a4_10 : decode cJ6_bitCount_0f7a4 10 = .ok (.iload_n 0, 1) := by decide +kernel
theorem dJ6_bitCount_0f7a4_11 : decode cJ6_bitCount_0f7a4 11 = .ok (.ldc_w 266, 3) := by decide +kernel
theorem dJ6_bitCount_0f7a4_14 : decode cJ6_bitCount_0f7a4 14 = .ok (.iand, 1) := by decide +kernel
theorem dJ6_bitCount_0f7a4_15 : decode cJ6_bitCount_0f7a4 15 = .ok (.iload_n 0, 1) := by decide +kernel
theorem dJ6_bitCount_0f7a4_16 : decode cJ6_bitCount_0f7a4 16 = .ok (.iconst 2, 1) := by decide +kernel
theorem dJ6_bitCount_0f7a4_17 : decode cJ6_bitCount_0f7a4 17 = .ok (.iushr, 1) := by decide +kernel
theorem dJ6_bitCount_0f7a4_18 : decode cJ6_bitCount_0f7a4 18 = .ok (.ldc_w 266, 3) := by decide +kernel
theorem dJ6_bitCount_0f7a4_21 : decode cJ6_bitCount_0f7a4 21 = .ok (.iand, 1) := by decide +kernel
theorem dJ6_bitCount_0f7a4_22 : decode cJ6_bitCount_0f7a4 22 = .ok (.iadd, 1) := by decide +kernel
theorem dJ6_bitCount_0f7a4_23 : decode cJ6_bitCount_0f7a4 23 = .ok (.istore_n 0, 1) := by decide +kernel
theorem dJ6_bitCount_0f7a4_24 : decode cJ6_bitCount_0f7a4 24 = .ok (.iload_n 0, 1) := by decide +kernel
theorem dJ6_bitCount_0f7a4_25 : decode cJ6_bitCount_0f7a4 25 = .ok (.iload_n 0, 1) := by decide +kernel
theorem dJ6_bitCount_0f7a4_26 : decode cJ6_bitCount_0f7a4 26 = .ok (.iconst 4, 1) := by decide +kernel
theorem dJ6_bitCount_0f7a4_27 : decode cJ6_bitCount_0f7a4 27 = .ok (.iushr, 1) := by decide +kernel
theorem dJ6_bitCount_0f7a4_28 : decode cJ6_bitCount_0f7a4 28 = .ok (.iadd, 1) := by decide +kernel
theorem dJ6_bitCount_0f7a4_29 : decode cJ6_bitCount_0f7a4 29 = .ok (.ldc_w 267, 3) := by decide +kernel
theorem dJ6_bitCount_0f7a4_32 : decode cJ6_bitCount_0f7a4 32 = .ok (.iand, 1) := by decide +kernel
theorem dJ6_bitCount_0f7a4_33 : decode cJ6_bitCount_0f7a4 33 = .ok (.istore_n 0, 1) := by decide +kernel
theorem dJ6_bitCount_0f7a4_34 : decode cJ6_bitCount_0f7a4 34 = .ok (.iload_n 0, 1) := by decide +kernel
theorem dJ6_bitCount_0f7a4_35 : decode cJ6_bitCount_0f7a4 35 = .ok (.iload_n 0, 1) := by decide +kernel
theorem dJ6_bitCount_0f7a4_36 : decode cJ6_bitCount_0f7a4 36 = .ok (.bipush 8, 2) := by decide +kernel
theorem dJ6_bitCount_0f7a4_38 : decode cJ6_bitCount_0f7a4 38 = .ok (.iushr, 1) := by decide +kernel
theorem dJ6_bitCount_0f7a4_39 : decode cJ6_bitCount_0f7a4 39 = .ok (.iadd, 1) := by decide +kernel
theorem dJ6_bitCount_0f7a4_40 : decode cJ6_bitCount_0f7a4 40 = .ok (.istore_n 0, 1) := by decide +kernel
theorem dJ6_bitCount_0f7a4_41 : decode cJ6_bitCount_0f7a4 41 = .ok (.iload_n 0, 1) := by decide +kernel
theorem dJ6_bitCount_0f7a4_42 : decode cJ6_bitCount_0f7a4 42 = .ok (.iload_n 0, 1) := by decide +kernel
theorem dJ6_bitCount_0f7a4_43 : decode cJ6_bitCount_0f7a4 43 = .ok (.bipush 16, 2) := by decide +kernel
theorem dJ6_bitCount_0f7a4_45 : decode cJ6_bitCount_0f7a4 45 = .ok (.iushr, 1) := by decide +kernel
theorem dJ6_bitCount_0f7a4_46 : decode cJ6_bitCount_0f7a4 46 = .ok (.iadd, 1) := by decide +kernel
theorem dJ6_bitCount_0f7a4_47 : decode cJ6_bitCount_0f7a4 47 = .ok (.istore_n 0, 1) := by decide +kernel
theorem dJ6_bitCount_0f7a4_48 : decode cJ6_bitCount_0f7a4 48 = .ok (.iload_n 0, 1) := by decide +kernel
theorem dJ6_bitCount_0f7a4_49 : decode cJ6_bitCount_0f7a4 49 = .ok (.bipush 63, 2) := by decide +kernel
theorem dJ6_bitCount_0f7a4_51 : decode cJ6_bitCount_0f7a4 51 = .ok (.iand, 1) := by decide +kernel
theorem dJ6_bitCount_0f7a4_52 : decode cJ6_bitCount_0f7a4 52 = .ok (.ireturn, 1) := by decide +kernel
theorem dJ9_abs_0f7a4_0 : decode cJ9_abs_0f7a4 0 = .ok (.iload_n 0, 1) := by decide +kernel
theorem dJ9_abs_0f7a4_1 : decode cJ9_abs_0f7a4 1 = .ok (.ifCond .ge 8, 3) := by decide +kernel
theorem dJ9_abs_0f7a4_4 : decode cJ9_abs_0f7a4 4 = .ok (.iload_n 0, 1) := by decide +kernel
theorem dJ9_abs_0f7a4_5 : decode cJ9_abs_0f7a4 5 = .ok (.ineg, 1) := by decide +kernel
theorem dJ9_abs_0f7a4_6 : decode cJ9_abs_0f7a4 6 = .ok (.goto 4, 3) := by decide +kernel
theorem dJ9_abs_0f7a4_9 : decode cJ9_abs_0f7a4 9 = .ok (.iload_n 0, 1) := by decide +kernel
theorem dJ9_abs_0f7a4_10 : decode cJ9_abs_0f7a4 10 = .ok (.ireturn, 1) := by decide +kernel
theorem dJ9_max_7cf53_0 : decode cJ9_max_7cf53 0 = .ok (.iload_n 0, 1) := by decide +kernel
theorem dJ9_max_7cf53_1 : decode cJ9_max_7cf53 1 = .ok (.iload_n 1, 1) := by decide +kernel
theorem dJ9_max_7cf53_2 : decode cJ9_max_7cf53 2 = .ok (.if_icmp .lt 7, 3) := by decide +kernel
theorem dJ9_max_7cf53_5 : decode cJ9_max_7cf53 5 = .ok (.iload_n 0, 1) := by decide +kernel
theorem dJ9_max_7cf53_6 : decode cJ9_max_7cf53 6 = .ok (.goto 4, 3) := by decide +kernel
theorem dJ9_max_7cf53_9 : decode cJ9_max_7cf53 9 = .ok (.iload_n 1, 1) := by decide +kernel
theorem dJ9_max_7cf53_10 : decode cJ9_max_7cf53 10 = .ok (.ireturn, 1) := by decide +kernel
theorem dJ9_min_7cf53_0 : decode cJ9_min_7cf53 0 = .ok (.iload_n 0, 1) := by decide +kernel
theorem dJ9_min_7cf53_1 : decode cJ9_min_7cf53 1 = .ok (.iload_n 1, 1) := by decide +kernel
theorem dJ9_min_7cf53_2 : decode cJ9_min_7cf53 2 = .ok (.if_icmp .gt 7, 3) := by decide +kernel
theorem dJ9_min_7cf53_5 : decode cJ9_min_7cf53 5 = .ok (.iload_n 0, 1) := by decide +kernel
theorem dJ9_min_7cf53_6 : decode cJ9_min_7cf53 6 = .ok (.goto 4, 3) := by decide +kernel
theorem dJ9_min_7cf53_9 : decode cJ9_min_7cf53 9 = .ok (.iload_n 1, 1) := by decide +kernel
theorem dJ9_min_7cf53_10 : decode cJ9_min_7cf53 10 = .ok (.ireturn, 1) := by decide +kernel
theorem dL_element_0 : decode cL_element 0 = .ok (.aload_n 3, 1) := by decide +kernel
theorem dL_element_1 : decode cL_element 1 = .ok (.iconst 0, 1) := by decide +kernel
theorem dL_element_2 : decode cL_element 2 = .ok (.aload_n 0, 1) := by decide +kernel
theorem dL_element_3 : decode cL_element 3 = .ok (.iload_n 1, 1) := by decide +kernel
theorem dL_element_4 : decode cL_element 4 = .ok (.iload_n 2, 1) := by decide +kernel
theorem dL_element_5 : decode cL_element 5 = .ok (.invokevirtual 7, 3) := by decide +kernel
theorem dL_element_8 : decode cL_element 8 = .ok (.lastore, 1) := by decide +kernel
theorem dL_element_9 : decode cL_element 9 = .ok (.goto 11, 3) := by decide +kernel
theorem dL_element_12 : decode cL_element 12 = .ok (.astore 4, 2) := by decide +kernel
theorem dL_element_14 : decode cL_element 14 = .ok (.iconst 1, 1) := by decide +kernel
theorem dL_element_15 : decode cL_element 15 = .ok (.ireturn, 1) := by decide +kernel
theorem dL_element_16 : decode cL_element 16 = .ok (.astore 4, 2) := by decide +kernel
theorem dL_element_18 : decode cL_element 18 = .ok (.iconst 2, 1) := by decide +kernel
theorem dL_element_19 : decode cL_element 19 = .ok (.ireturn, 1) := by decide +kernel
theorem dL_element_20 : decode cL_element 20 = .ok (.iconst 0, 1) := by decide +kernel
theorem dL_element_21 : decode cL_element 21 = .ok (.ireturn, 1) := by decide +kernel
theorem dL_law_0 : decode cL_law 0 = .ok (.new 8, 3) := by decide +kernel
theorem dL_law_3 : decode cL_law 3 = .ok (.dup, 1) := by decide +kernel
theorem dL_law_4 : decode cL_law 4 = .ok (.invokespecial 17, 3) := by decide +kernel
theorem dL_law_7 : decode cL_law 7 = .ok (.astore_n 1, 1) := by decide +kernel
theorem dL_law_8 : decode cL_law 8 = .ok (.new 18, 3) := by decide +kernel
theorem dL_law_11 : decode cL_law 11 = .ok (.dup, 1) := by decide +kernel
theorem dL_law_12 : decode cL_law 12 = .ok (.invokespecial 20, 3) := by decide +kernel
theorem dL_law_15 : decode cL_law 15 = .ok (.astore_n 2, 1) := by decide +kernel
theorem dL_law_16 : decode cL_law 16 = .ok (.iconst 1, 1) := by decide +kernel
theorem dL_law_17 : decode cL_law 17 = .ok (.newarray .long, 2) := by decide +kernel
theorem dL_law_19 : decode cL_law 19 = .ok (.astore_n 3, 1) := by decide +kernel
theorem dL_law_20 : decode cL_law 20 = .ok (.iconst 0, 1) := by decide +kernel
theorem dL_law_21 : decode cL_law 21 = .ok (.istore 4, 2) := by decide +kernel
theorem dL_law_23 : decode cL_law 23 = .ok (.iload 4, 2) := by decide +kernel
theorem dL_law_25 : decode cL_law 25 = .ok (.aload_n 0, 1) := by decide +kernel
theorem dL_law_26 : decode cL_law 26 = .ok (.arraylength, 1) := by decide +kernel
theorem dL_law_27 : decode cL_law 27 = .ok (.bipush 6, 2) := by decide +kernel
theorem dL_law_29 : decode cL_law 29 = .ok (.isub, 1) := by decide +kernel
theorem dL_law_30 : decode cL_law 30 = .ok (.if_icmp .gt 1710, 3) := by decide +kernel
theorem dL_law_33 : decode cL_law 33 = .ok (.aload_n 0, 1) := by decide +kernel
theorem dL_law_34 : decode cL_law 34 = .ok (.iload 4, 2) := by decide +kernel
theorem dL_law_36 : decode cL_law 36 = .ok (.iaload, 1) := by decide +kernel
theorem dL_law_37 : decode cL_law 37 = .ok (.bipush 63, 2) := by decide +kernel
theorem dL_law_39 : decode cL_law 39 = .ok (.iand, 1) := by decide +kernel
theorem dL_law_40 : decode cL_law 40 = .ok (.tableswitch 1694 0 40 #[180, 205, 242, 267, 304, 329, 354, 379, 428, 453, 490, 527, 552, 565, 590, 651, 700, 750, 787, 824, 849, 886, 923, 972, 997, 1046, 1095, 1157, 1195, 1220, 1245, 1294, 1307, 1320, 1345, 1406, 1455, 1504, 1571, 1644, 1669], 180) := by decide +kernel
theorem dL_law_220 : decode cL_law 220 = .ok (.aload_n 1, 1) := by decide +kernel
theorem dL_law_221 : decode cL_law 221 = .ok (.aload_n 0, 1) := by decide +kernel
theorem dL_law_222 : decode cL_law 222 = .ok (.iload 4, 2) := by decide +kernel
theorem dL_law_224 : decode cL_law 224 = .ok (.iconst 1, 1) := by decide +kernel
theorem dL_law_225 : decode cL_law 225 = .ok (.iadd, 1) := by decide +kernel
theorem dL_law_226 : decode cL_law 226 = .ok (.iaload, 1) := by decide +kernel
theorem dL_law_227 : decode cL_law 227 = .ok (.invokevirtual 21, 3) := by decide +kernel
theorem dL_law_230 : decode cL_law 230 = .ok (.aload_n 2, 1) := by decide +kernel
theorem dL_law_231 : decode cL_law 231 = .ok (.aload_n 0, 1) := by decide +kernel
theorem dL_law_232 : decode cL_law 232 = .ok (.iload 4, 2) := by decide +kernel
theorem dL_law_234 : decode cL_law 234 = .ok (.iconst 1, 1) := by decide +kernel
theorem dL_law_235 : decode cL_law 235 = .ok (.iadd, 1) := by decide +kernel
theorem dL_law_236 : decode cL_law 236 = .ok (.iaload, 1) := by decide +kernel
theorem dL_law_237 : decode cL_law 237 = .ok (.invokevirtual 25, 3) := by decide +kernel
theorem dL_law_240 : decode cL_law 240 = .ok (.if_icmp .eq 1494, 3) := by decide +kernel
theorem dL_law_243 : decode cL_law 243 = .ok (.iconst 0, 1) := by decide +kernel
theorem dL_law_244 : decode cL_law 244 = .ok (.ireturn, 1) := by decide +kernel
theorem dL_law_245 : decode cL_law 245 = .ok (.aload_n 1, 1) := by decide +kernel
theorem dL_law_246 : decode cL_law 246 = .ok (.aload_n 0, 1) := by decide +kernel
theorem dL_law_247 : decode cL_law 247 = .ok (.iload 4, 2) := by decide +kernel
theorem dL_law_249 : decode cL_law 249 = .ok (.iconst 1, 1) := by decide +kernel
theorem dL_law_250 : decode cL_law 250 = .ok (.iadd, 1) := by decide +kernel
theorem dL_law_251 : decode cL_law 251 = .ok (.iaload, 1) := by decide +kernel
theorem dL_law_252 : decode cL_law 252 = .ok (.aload_n 0, 1) := by decide +kernel
theorem dL_law_253 : decode cL_law 253 = .ok (.iload 4, 2) := by decide +kernel
theorem dL_law_255 : decode cL_law 255 = .ok (.iconst 2, 1) := by decide +kernel
theorem dL_law_256 : decode cL_law 256 = .ok (.iadd, 1) := by decide +kernel
theorem dL_law_257 : decode cL_law 257 = .ok (.iaload, 1) := by decide +kernel
theorem dL_law_258 : decode cL_law 258 = .ok (.invokevirtual 26, 3) := by decide +kernel
theorem dL_law_261 : decode cL_law 261 = .ok (.aload_n 2, 1) := by decide +kernel
theorem dL_law_262 : decode cL_law 262 = .ok (.aload_n 0, 1) := by decide +kernel
theorem dL_law_263 : decode cL_law 263 = .ok (.iload 4, 2) := by decide +kernel
theorem dL_law_265 : decode cL_law 265 = .ok (.iconst 1, 1) := by decide +kernel
theorem dL_law_266 : decode cL_law 266 = .ok (.iadd, 1) := by decide +kernel
theorem dL_law_267 : decode cL_law 267 = .ok (.iaload, 1) := by decide +kernel
theorem dL_law_268 : decode cL_law 268 = .ok (.aload_n 0, 1) := by decide +kernel
theorem dL_law_269 : decode cL_law 269 = .ok (.iload 4, 2) := by decide +kernel
theorem dL_law_271 : decode cL_law 271 = .ok (.iconst 2, 1) := by decide +kernel
theorem dL_law_272 : decode cL_law 272 = .ok (.iadd, 1) := by decide +kernel
theorem dL_law_273 : decode cL_law 273 = .ok (.iaload, 1) := by decide +kernel
theorem dL_law_274 : decode cL_law 274 = .ok (.invokevirtual 30, 3) := by decide +kernel
theorem dL_law_277 : decode cL_law 277 = .ok (.if_icmp .eq 1457, 3) := by decide +kernel
theorem dL_law_280 : decode cL_law 280 = .ok (.iconst 0, 1) := by decide +kernel
theorem dL_law_281 : decode cL_law 281 = .ok (.ireturn, 1) := by decide +kernel
theorem dL_law_282 : decode cL_law 282 = .ok (.aload_n 1, 1) := by decide +kernel
theorem dL_law_283 : decode cL_law 283 = .ok (.aload_n 0, 1) := by decide +kernel
theorem dL_law_284 : decode cL_law 284 = .ok (.iload 4, 2) := by decide +kernel
theorem dL_law_286 : decode cL_law 286 = .ok (.iconst 1, 1) := by decide +kernel
theorem dL_law_287 : decode cL_law 287 = .ok (.iadd, 1) := by decide +kernel
theorem dL_law_288 : decode cL_law 288 = .ok (.iaload, 1) := by decide +kernel
theorem dL_law_289 : decode cL_law 289 = .ok (.invokevirtual 31, 3) := by decide +kernel
theorem dL_law_292 : decode cL_law 292 = .ok (.aload_n 2, 1) := by decide +kernel
theorem dL_law_293 : decode cL_law 293 = .ok (.aload_n 0, 1) := by decide +kernel
theorem dL_law_294 : decode cL_law 294 = .ok (.iload 4, 2) := by decide +kernel
theorem dL_law_296 : decode cL_law 296 = .ok (.iconst 1, 1) := by decide +kernel
theorem dL_law_297 : decode cL_law 297 = .ok (.iadd, 1) := by decide +kernel
theorem dL_law_298 : decode cL_law 298 = .ok (.iaload, 1) := by decide +kernel
theorem dL_law_299 : decode cL_law 299 = .ok (.invokevirtual 34, 3) := by decide +kernel
theorem dL_law_302 : decode cL_law 302 = .ok (.if_icmp .eq 1432, 3) := by decide +kernel
theorem dL_law_305 : decode cL_law 305 = .ok (.iconst 0, 1) := by decide +kernel
theorem dL_law_306 : decode cL_law 306 = .ok (.ireturn, 1) := by decide +kernel
theorem dL_law_307 : decode cL_law 307 = .ok (.aload_n 1, 1) := by decide +kernel
theorem dL_law_308 : decode cL_law 308 = .ok (.aload_n 0, 1) := by decide +kernel
theorem dL_law_309 : decode cL_law 309 = .ok (.iload 4, 2) := by decide +kernel
theorem dL_law_311 : decode cL_law 311 = .ok (.iconst 1, 1) := by decide +kernel
theorem dL_law_312 : decode cL_law 312 = .ok (.iadd, 1) := by decide +kernel
theorem dL_law_313 : decode cL_law 313 = .ok (.iaload, 1) := by decide +kernel
theorem dL_law_314 : decode cL_law 314 = .ok (.aload_n 0, 1) := by decide +kernel
theorem dL_law_315 : decode cL_law 315 = .ok (.iload 4, 2) := by decide +kernel
theorem dL_law_317 : decode cL_law 317 = .ok (.iconst 2, 1) := by decide +kernel
theorem dL_law_318 : decode cL_law 318 = .ok (.iadd, 1) := by decide +kernel
theorem dL_law_319 : decode cL_law 319 = .ok (.iaload, 1) := by decide +kernel
theorem dL_law_320 : decode cL_law 320 = .ok (.invokevirtual 35, 3) := by decide +kernel
theorem dL_law_323 : decode cL_law 323 = .ok (.aload_n 2, 1) := by decide +kernel
theorem dL_law_324 : decode cL_law 324 = .ok (.aload_n 0, 1) := by decide +kernel
theorem dL_law_325 : decode cL_law 325 = .ok (.iload 4, 2) := by decide +kernel
theorem dL_law_327 : decode cL_law 327 = .ok (.iconst 1, 1) := by decide +kernel
theorem dL_law_328 : decode cL_law 328 = .ok (.iadd, 1) := by decide +kernel
theorem dL_law_329 : decode cL_law 329 = .ok (.iaload, 1) := by decide +kernel
theorem dL_law_330 : decode cL_law 330 = .ok (.aload_n 0, 1) := by decide +kernel
theorem dL_law_331 : decode cL_law 331 = .ok (.iload 4, 2) := by decide +kernel
theorem dL_law_333 : decode cL_law 333 = .ok (.iconst 2, 1) := by decide +kernel
theorem dL_law_334 : decode cL_law 334 = .ok (.iadd, 1) := by decide +kernel
theorem dL_law_335 : decode cL_law 335 = .ok (.iaload, 1) := by decide +kernel
theorem dL_law_336 : decode cL_law 336 = .ok (.invokevirtual 38, 3) := by decide +kernel
theorem dL_law_339 : decode cL_law 339 = .ok (.if_icmp .eq 1395, 3) := by decide +kernel
theorem dL_law_342 : decode cL_law 342 = .ok (.iconst 0, 1) := by decide +kernel
theorem dL_law_343 : decode cL_law 343 = .ok (.ireturn, 1) := by decide +kernel
theorem dL_law_344 : decode cL_law 344 = .ok (.aload_n 1, 1) := by decide +kernel
theorem dL_law_345 : decode cL_law 345 = .ok (.aload_n 0, 1) := by decide +kernel
theorem dL_law_346 : decode cL_law 346 = .ok (.iload 4, 2) := by decide +kernel
theorem dL_law_348 : decode cL_law 348 = .ok (.iconst 1, 1) := by decide +kernel
theorem dL_law_349 : decode cL_law 349 = .ok (.iadd, 1) := by decide +kernel
theorem dL_law_350 : decode cL_law 350 = .ok (.iaload, 1) := by decide +kernel
theorem dL_law_351 : decode cL_law 351 = .ok (.invokevirtual 39, 3) := by decide +kernel
theorem dL_law_354 : decode cL_law 354 = .ok (.aload_n 2, 1) := by decide +kernel
theorem dL_law_355 : decode cL_law 355 = .ok (.aload_n 0, 1) := by decide +kernel
theorem dL_law_356 : decode cL_law 356 = .ok (.iload 4, 2) := by decide +kernel
theorem dL_law_358 : decode cL_law 358 = .ok (.iconst 1, 1) := by decide +kernel
theorem dL_law_359 : decode cL_law 359 = .ok (.iadd, 1) := by decide +kernel
theorem dL_law_360 : decode cL_law 360 = .ok (.iaload, 1) := by decide +kernel
theorem dL_law_361 : decode cL_law 361 = .ok (.invokevirtual 42, 3) := by decide +kernel
theorem dL_law_364 : decode cL_law 364 = .ok (.if_icmp .eq 1370, 3) := by decide +kernel
theorem dL_law_367 : decode cL_law 367 = .ok (.iconst 0, 1) := by decide +kernel
theorem dL_law_368 : decode cL_law 368 = .ok (.ireturn, 1) := by decide +kernel
theorem dL_law_369 : decode cL_law 369 = .ok (.aload_n 1, 1) := by decide +kernel
theorem dL_law_370 : decode cL_law 370 = .ok (.aload_n 0, 1) := by decide +kernel
theorem dL_law_371 : decode cL_law 371 = .ok (.iload 4, 2) := by decide +kernel
theorem dL_law_373 : decode cL_law 373 = .ok (.iconst 1, 1) := by decide +kernel
theorem dL_law_374 : decode cL_law 374 = .ok (.iadd, 1) := by decide +kernel
theorem dL_law_375 : decode cL_law 375 = .ok (.iaload, 1) := by decide +kernel
theorem dL_law_376 : decode cL_law 376 = .ok (.invokevirtual 43, 3) := by decide +kernel
theorem dL_law_379 : decode cL_law 379 = .ok (.aload_n 2, 1) := by decide +kernel
theorem dL_law_380 : decode cL_law 380 = .ok (.aload_n 0, 1) := by decide +kernel
theorem dL_law_381 : decode cL_law 381 = .ok (.iload 4, 2) := by decide +kernel
theorem dL_law_383 : decode cL_law 383 = .ok (.iconst 1, 1) := by decide +kernel
theorem dL_law_384 : decode cL_law 384 = .ok (.iadd, 1) := by decide +kernel
theorem dL_law_385 : decode cL_law 385 = .ok (.iaload, 1) := by decide +kernel
theorem dL_law_386 : decode cL_law 386 = .ok (.invokevirtual 46, 3) := by decide +kernel
theorem dL_law_389 : decode cL_law 389 = .ok (.if_icmp .eq 1345, 3) := by decide +kernel
theorem dL_law_392 : decode cL_law 392 = .ok (.iconst 0, 1) := by decide +kernel
theorem dL_law_393 : decode cL_law 393 = .ok (.ireturn, 1) := by decide +kernel
theorem dL_law_394 : decode cL_law 394 = .ok (.aload_n 1, 1) := by decide +kernel
theorem dL_law_395 : decode cL_law 395 = .ok (.aload_n 0, 1) := by decide +kernel
theorem dL_law_396 : decode cL_law 396 = .ok (.iload 4, 2) := by decide +kernel
theorem dL_law_398 : decode cL_law 398 = .ok (.iconst 1, 1) := by decide +kernel
theorem dL_law_399 : decode cL_law 399 = .ok (.iadd, 1) := by decide +kernel
theorem dL_law_400 : decode cL_law 400 = .ok (.iaload, 1) := by decide +kernel
theorem dL_law_401 : decode cL_law 401 = .ok (.invokevirtual 47, 3) := by decide +kernel
theorem dL_law_404 : decode cL_law 404 = .ok (.aload_n 2, 1) := by decide +kernel
theorem dL_law_405 : decode cL_law 405 = .ok (.aload_n 0, 1) := by decide +kernel
theorem dL_law_406 : decode cL_law 406 = .ok (.iload 4, 2) := by decide +kernel
theorem dL_law_408 : decode cL_law 408 = .ok (.iconst 1, 1) := by decide +kernel
theorem dL_law_409 : decode cL_law 409 = .ok (.iadd, 1) := by decide +kernel
theorem dL_law_410 : decode cL_law 410 = .ok (.iaload, 1) := by decide +kernel
theorem dL_law_411 : decode cL_law 411 = .ok (.invokevirtual 50, 3) := by decide +kernel
theorem dL_law_414 : decode cL_law 414 = .ok (.if_icmp .eq 1320, 3) := by decide +kernel
theorem dL_law_417 : decode cL_law 417 = .ok (.iconst 0, 1) := by decide +kernel
theorem dL_law_418 : decode cL_law 418 = .ok (.ireturn, 1) := by decide +kernel
theorem dL_law_419 : decode cL_law 419 = .ok (.aload_n 1, 1) := by decide +kernel
theorem dL_law_420 : decode cL_law 420 = .ok (.aload_n 0, 1) := by decide +kernel
theorem dL_law_421 : decode cL_law 421 = .ok (.iload 4, 2) := by decide +kernel
theorem dL_law_423 : decode cL_law 423 = .ok (.iconst 1, 1) := by decide +kernel
theorem dL_law_424 : decode cL_law 424 = .ok (.iadd, 1) := by decide +kernel
theorem dL_law_425 : decode cL_law 425 = .ok (.iaload, 1) := by decide +kernel
theorem dL_law_426 : decode cL_law 426 = .ok (.aload_n 0, 1) := by decide +kernel
theorem dL_law_427 : decode cL_law 427 = .ok (.iload 4, 2) := by decide +kernel
theorem dL_law_429 : decode cL_law 429 = .ok (.iconst 2, 1) := by decide +kernel
theorem dL_law_430 : decode cL_law 430 = .ok (.iadd, 1) := by decide +kernel
theorem dL_law_431 : decode cL_law 431 = .ok (.iaload, 1) := by decide +kernel
theorem dL_law_432 : decode cL_law 432 = .ok (.aload_n 0, 1) := by decide +kernel
theorem dL_law_433 : decode cL_law 433 = .ok (.iload 4, 2) := by decide +kernel
theorem dL_law_435 : decode cL_law 435 = .ok (.iconst 3, 1) := by decide +kernel
theorem dL_law_436 : decode cL_law 436 = .ok (.iadd, 1) := by decide +kernel
theorem dL_law_437 : decode cL_law 437 = .ok (.iaload, 1) := by decide +kernel
theorem dL_law_438 : decode cL_law 438 = .ok (.invokevirtual 51, 3) := by decide +kernel
theorem dL_law_441 : decode cL_law 441 = .ok (.aload_n 2, 1) := by decide +kernel
theorem dL_law_442 : decode cL_law 442 = .ok (.aload_n 0, 1) := by decide +kernel
theorem dL_law_443 : decode cL_law 443 = .ok (.iload 4, 2) := by decide +kernel
theorem dL_law_445 : decode cL_law 445 = .ok (.iconst 1, 1) := by decide +kernel
theorem dL_law_446 : decode cL_law 446 = .ok (.iadd, 1) := by decide +kernel
theorem dL_law_447 : decode cL_law 447 = .ok (.iaload, 1) := by decide +kernel
theorem dL_law_448 : decode cL_law 448 = .ok (.aload_n 0, 1) := by decide +kernel
theorem dL_law_449 : decode cL_law 449 = .ok (.iload 4, 2) := by decide +kernel
theorem dL_law_451 : decode cL_law 451 = .ok (.iconst 2, 1) := by decide +kernel
theorem dL_law_452 : decode cL_law 452 = .ok (.iadd, 1) := by decide +kernel
theorem dL_law_453 : decode cL_law 453 = .ok (.iaload, 1) := by decide +kernel
theorem dL_law_454 : decode cL_law 454 = .ok (.aload_n 0, 1) := by decide +kernel
theorem dL_law_455 : decode cL_law 455 = .ok (.iload 4, 2) := by decide +kernel
theorem dL_law_457 : decode cL_law 457 = .ok (.iconst 3, 1) := by decide +kernel
theorem dL_law_458 : decode cL_law 458 = .ok (.iadd, 1) := by decide +kernel
theorem dL_law_459 : decode cL_law 459 = .ok (.iaload, 1) := by decide +kernel
theorem dL_law_460 : decode cL_law 460 = .ok (.invokevirtual 55, 3) := by decide +kernel
theorem dL_law_463 : decode cL_law 463 = .ok (.if_icmp .eq 1271, 3) := by decide +kernel
theorem dL_law_466 : decode cL_law 466 = .ok (.iconst 0, 1) := by decide +kernel
theorem dL_law_467 : decode cL_law 467 = .ok (.ireturn, 1) := by decide +kernel
theorem dL_law_468 : decode cL_law 468 = .ok (.aload_n 1, 1) := by decide +kernel
theorem dL_law_469 : decode cL_law 469 = .ok (.aload_n 0, 1) := by decide +kernel
theorem dL_law_470 : decode cL_law 470 = .ok (.iload 4, 2) := by decide +kernel
theorem dL_law_472 : decode cL_law 472 = .ok (.iconst 1, 1) := by decide +kernel
theorem dL_law_473 : decode cL_law 473 = .ok (.iadd, 1) := by decide +kernel
theorem dL_law_474 : decode cL_law 474 = .ok (.iaload, 1) := by decide +kernel
theorem dL_law_475 : decode cL_law 475 = .ok (.invokevirtual 56, 3) := by decide +kernel
theorem dL_law_478 : decode cL_law 478 = .ok (.aload_n 2, 1) := by decide +kernel
theorem dL_law_479 : decode cL_law 479 = .ok (.aload_n 0, 1) := by decide +kernel
theorem dL_law_480 : decode cL_law 480 = .ok (.iload 4, 2) := by decide +kernel
theorem dL_law_482 : decode cL_law 482 = .ok (.iconst 1, 1) := by decide +kernel
theorem dL_law_483 : decode cL_law 483 = .ok (.iadd, 1) := by decide +kernel
theorem dL_law_484 : decode cL_law 484 = .ok (.iaload, 1) := by decide +kernel
theorem dL_law_485 : decode cL_law 485 = .ok (.invokevirtual 59, 3) := by decide +kernel
theorem dL_law_488 : decode cL_law 488 = .ok (.if_icmp .eq 1246, 3) := by decide +kernel
theorem dL_law_491 : decode cL_law 491 = .ok (.iconst 0, 1) := by decide +kernel
theorem dL_law_492 : decode cL_law 492 = .ok (.ireturn, 1) := by decide +kernel
theorem dL_law_493 : decode cL_law 493 = .ok (.aload_n 1, 1) := by decide +kernel
theorem dL_law_494 : decode cL_law 494 = .ok (.aload_n 0, 1) := by decide +kernel
theorem dL_law_495 : decode cL_law 495 = .ok (.iload 4, 2) := by decide +kernel
theorem dL_law_497 : decode cL_law 497 = .ok (.iconst 1, 1) := by decide +kernel
theorem dL_law_498 : decode cL_law 498 = .ok (.iadd, 1) := by decide +kernel
theorem dL_law_499 : decode cL_law 499 = .ok (.iaload, 1) := by decide +kernel
theorem dL_law_500 : decode cL_law 500 = .ok (.aload_n 0, 1) := by decide +kernel
theorem dL_law_501 : decode cL_law 501 = .ok (.iload 4, 2) := by decide +kernel
theorem dL_law_503 : decode cL_law 503 = .ok (.iconst 2, 1) := by decide +kernel
theorem dL_law_504 : decode cL_law 504 = .ok (.iadd, 1) := by decide +kernel
theorem dL_law_505 : decode cL_law 505 = .ok (.iaload, 1) := by decide +kernel
theorem dL_law_506 : decode cL_law 506 = .ok (.invokevirtual 60, 3) := by decide +kernel
theorem dL_law_509 : decode cL_law 509 = .ok (.aload_n 2, 1) := by decide +kernel
theorem dL_law_510 : decode cL_law 510 = .ok (.aload_n 0, 1) := by decide +kernel
theorem dL_law_511 : decode cL_law 511 = .ok (.iload 4, 2) := by decide +kernel
theorem dL_law_513 : decode cL_law 513 = .ok (.iconst 1, 1) := by decide +kernel
theorem dL_law_514 : decode cL_law 514 = .ok (.iadd, 1) := by decide +kernel
theorem dL_law_515 : decode cL_law 515 = .ok (.iaload, 1) := by decide +kernel
theorem dL_law_516 : decode cL_law 516 = .ok (.aload_n 0, 1) := by decide +kernel
theorem dL_law_517 : decode cL_law 517 = .ok (.iload 4, 2) := by decide +kernel
theorem dL_law_519 : decode cL_law 519 = .ok (.iconst 2, 1) := by decide +kernel
theorem dL_law_520 : decode cL_law 520 = .ok (.iadd, 1) := by decide +kernel
theorem dL_law_521 : decode cL_law 521 = .ok (.iaload, 1) := by decide +kernel
theorem dL_law_522 : decode cL_law 522 = .ok (.invokevirtual 63, 3) := by decide +kernel
theorem dL_law_525 : decode cL_law 525 = .ok (.if_icmp .eq 1209, 3) := by decide +kernel
theorem dL_law_528 : decode cL_law 528 = .ok (.iconst 0, 1) := by decide +kernel
theorem dL_law_529 : decode cL_law 529 = .ok (.ireturn, 1) := by decide +kernel
theorem dL_law_530 : decode cL_law 530 = .ok (.aload_n 1, 1) := by decide +kernel
theorem dL_law_531 : decode cL_law 531 = .ok (.aload_n 0, 1) := by decide +kernel
theorem dL_law_532 : decode cL_law 532 = .ok (.iload 4, 2) := by decide +kernel
theorem dL_law_534 : decode cL_law 534 = .ok (.iconst 1, 1) := by decide +kernel
theorem dL_law_535 : decode cL_law 535 = .ok (.iadd, 1) := by decide +kernel
theorem dL_law_536 : decode cL_law 536 = .ok (.iaload, 1) := by decide +kernel
theorem dL_law_537 : decode cL_law 537 = .ok (.aload_n 0, 1) := by decide +kernel
theorem dL_law_538 : decode cL_law 538 = .ok (.iload 4, 2) := by decide +kernel
theorem dL_law_540 : decode cL_law 540 = .ok (.iconst 2, 1) := by decide +kernel
theorem dL_law_541 : decode cL_law 541 = .ok (.iadd, 1) := by decide +kernel
theorem dL_law_542 : decode cL_law 542 = .ok (.iaload, 1) := by decide +kernel
theorem dL_law_543 : decode cL_law 543 = .ok (.invokevirtual 64, 3) := by decide +kernel
theorem dL_law_546 : decode cL_law 546 = .ok (.aload_n 2, 1) := by decide +kernel
theorem dL_law_547 : decode cL_law 547 = .ok (.aload_n 0, 1) := by decide +kernel
theorem dL_law_548 : decode cL_law 548 = .ok (.iload 4, 2) := by decide +kernel
theorem dL_law_550 : decode cL_law 550 = .ok (.iconst 1, 1) := by decide +kernel
theorem dL_law_551 : decode cL_law 551 = .ok (.iadd, 1) := by decide +kernel
theorem dL_law_552 : decode cL_law 552 = .ok (.iaload, 1) := by decide +kernel
theorem dL_law_553 : decode cL_law 553 = .ok (.aload_n 0, 1) := by decide +kernel
theorem dL_law_554 : decode cL_law 554 = .ok (.iload 4, 2) := by decide +kernel
theorem dL_law_556 : decode cL_law 556 = .ok (.iconst 2, 1) := by decide +kernel
theorem dL_law_557 : decode cL_law 557 = .ok (.iadd, 1) := by decide +kernel
theorem dL_law_558 : decode cL_law 558 = .ok (.iaload, 1) := by decide +kernel
theorem dL_law_559 : decode cL_law 559 = .ok (.invokevirtual 67, 3) := by decide +kernel
theorem dL_law_562 : decode cL_law 562 = .ok (.if_icmp .eq 1172, 3) := by decide +kernel
theorem dL_law_565 : decode cL_law 565 = .ok (.iconst 0, 1) := by decide +kernel
theorem dL_law_566 : decode cL_law 566 = .ok (.ireturn, 1) := by decide +kernel
theorem dL_law_567 : decode cL_law 567 = .ok (.aload_n 1, 1) := by decide +kernel
theorem dL_law_568 : decode cL_law 568 = .ok (.aload_n 0, 1) := by decide +kernel
theorem dL_law_569 : decode cL_law 569 = .ok (.iload 4, 2) := by decide +kernel
theorem dL_law_571 : decode cL_law 571 = .ok (.iconst 1, 1) := by decide +kernel
theorem dL_law_572 : decode cL_law 572 = .ok (.iadd, 1) := by decide +kernel
theorem dL_law_573 : decode cL_law 573 = .ok (.iaload, 1) := by decide +kernel
theorem dL_law_574 : decode cL_law 574 = .ok (.invokevirtual 68, 3) := by decide +kernel
theorem dL_law_577 : decode cL_law 577 = .ok (.aload_n 2, 1) := by decide +kernel
theorem dL_law_578 : decode cL_law 578 = .ok (.aload_n 0, 1) := by decide +kernel
theorem dL_law_579 : decode cL_law 579 = .ok (.iload 4, 2) := by decide +kernel
theorem dL_law_581 : decode cL_law 581 = .ok (.iconst 1, 1) := by decide +kernel
theorem dL_law_582 : decode cL_law 582 = .ok (.iadd, 1) := by decide +kernel
theorem dL_law_583 : decode cL_law 583 = .ok (.iaload, 1) := by decide +kernel
theorem dL_law_584 : decode cL_law 584 = .ok (.invokevirtual 71, 3) := by decide +kernel
theorem dL_law_587 : decode cL_law 587 = .ok (.if_icmp .eq 1147, 3) := by decide +kernel
theorem dL_law_590 : decode cL_law 590 = .ok (.iconst 0, 1) := by decide +kernel
theorem dL_law_591 : decode cL_law 591 = .ok (.ireturn, 1) := by decide +kernel
theorem dL_law_592 : decode cL_law 592 = .ok (.aload_n 1, 1) := by decide +kernel
theorem dL_law_593 : decode cL_law 593 = .ok (.invokevirtual 72, 3) := by decide +kernel
theorem dL_law_596 : decode cL_law 596 = .ok (.aload_n 2, 1) := by decide +kernel
theorem dL_law_597 : decode cL_law 597 = .ok (.invokevirtual 76, 3) := by decide +kernel
theorem dL_law_600 : decode cL_law 600 = .ok (.if_icmp .eq 1134, 3) := by decide +kernel
theorem dL_law_603 : decode cL_law 603 = .ok (.iconst 0, 1) := by decide +kernel
theorem dL_law_604 : decode cL_law 604 = .ok (.ireturn, 1) := by decide +kernel
theorem dL_law_605 : decode cL_law 605 = .ok (.aload_n 1, 1) := by decide +kernel
theorem dL_law_606 : decode cL_law 606 = .ok (.aload_n 0, 1) := by decide +kernel
theorem dL_law_607 : decode cL_law 607 = .ok (.iload 4, 2) := by decide +kernel
theorem dL_law_609 : decode cL_law 609 = .ok (.iconst 1, 1) := by decide +kernel
theorem dL_law_610 : decode cL_law 610 = .ok (.iadd, 1) := by decide +kernel
theorem dL_law_611 : decode cL_law 611 = .ok (.iaload, 1) := by decide +kernel
theorem dL_law_612 : decode cL_law 612 = .ok (.invokevirtual 77, 3) := by decide +kernel
theorem dL_law_615 : decode cL_law 615 = .ok (.aload_n 2, 1) := by decide +kernel
theorem dL_law_616 : decode cL_law 616 = .ok (.aload_n 0, 1) := by decide +kernel
theorem dL_law_617 : decode cL_law 617 = .ok (.iload 4, 2) := by decide +kernel
theorem dL_law_619 : decode cL_law 619 = .ok (.iconst 1, 1) := by decide +kernel
theorem dL_law_620 : decode cL_law 620 = .ok (.iadd, 1) := by decide +kernel
theorem dL_law_621 : decode cL_law 621 = .ok (.iaload, 1) := by decide +kernel
theorem dL_law_622 : decode cL_law 622 = .ok (.invokevirtual 80, 3) := by decide +kernel
theorem dL_law_625 : decode cL_law 625 = .ok (.if_icmp .eq 1109, 3) := by decide +kernel
theorem dL_law_628 : decode cL_law 628 = .ok (.iconst 0, 1) := by decide +kernel
theorem dL_law_629 : decode cL_law 629 = .ok (.ireturn, 1) := by decide +kernel
theorem dL_law_630 : decode cL_law 630 = .ok (.aload_n 1, 1) := by decide +kernel
theorem dL_law_631 : decode cL_law 631 = .ok (.aload_n 0, 1) := by decide +kernel
theorem dL_law_632 : decode cL_law 632 = .ok (.iload 4, 2) := by decide +kernel
theorem dL_law_634 : decode cL_law 634 = .ok (.iconst 1, 1) := by decide +kernel
theorem dL_law_635 : decode cL_law 635 = .ok (.iadd, 1) := by decide +kernel
theorem dL_law_636 : decode cL_law 636 = .ok (.iaload, 1) := by decide +kernel
theorem dL_law_637 : decode cL_law 637 = .ok (.aload_n 0, 1) := by decide +kernel
theorem dL_law_638 : decode cL_law 638 = .ok (.iload 4, 2) := by decide +kernel
theorem dL_law_640 : decode cL_law 640 = .ok (.iconst 2, 1) := by decide +kernel
theorem dL_law_641 : decode cL_law 641 = .ok (.iadd, 1) := by decide +kernel
theorem dL_law_642 : decode cL_law 642 = .ok (.iaload, 1) := by decide +kernel
theorem dL_law_643 : decode cL_law 643 = .ok (.aload_n 0, 1) := by decide +kernel
theorem dL_law_644 : decode cL_law 644 = .ok (.iload 4, 2) := by decide +kernel
theorem dL_law_646 : decode cL_law 646 = .ok (.iconst 3, 1) := by decide +kernel
theorem dL_law_647 : decode cL_law 647 = .ok (.iadd, 1) := by decide +kernel
theorem dL_law_648 : decode cL_law 648 = .ok (.iaload, 1) := by decide +kernel
theorem dL_law_649 : decode cL_law 649 = .ok (.aload_n 0, 1) := by decide +kernel
theorem dL_law_650 : decode cL_law 650 = .ok (.iload 4, 2) := by decide +kernel
theorem dL_law_652 : decode cL_law 652 = .ok (.iconst 4, 1) := by decide +kernel
theorem dL_law_653 : decode cL_law 653 = .ok (.iadd, 1) := by decide +kernel
theorem dL_law_654 : decode cL_law 654 = .ok (.iaload, 1) := by decide +kernel
theorem dL_law_655 : decode cL_law 655 = .ok (.invokevirtual 81, 3) := by decide +kernel
theorem dL_law_658 : decode cL_law 658 = .ok (.aload_n 2, 1) := by decide +kernel
theorem dL_law_659 : decode cL_law 659 = .ok (.aload_n 0, 1) := by decide +kernel
theorem dL_law_660 : decode cL_law 660 = .ok (.iload 4, 2) := by decide +kernel
theorem dL_law_662 : decode cL_law 662 = .ok (.iconst 1, 1) := by decide +kernel
theorem dL_law_663 : decode cL_law 663 = .ok (.iadd, 1) := by decide +kernel
theorem dL_law_664 : decode cL_law 664 = .ok (.iaload, 1) := by decide +kernel
theorem dL_law_665 : decode cL_law 665 = .ok (.aload_n 0, 1) := by decide +kernel
theorem dL_law_666 : decode cL_law 666 = .ok (.iload 4, 2) := by decide +kernel
theorem dL_law_668 : decode cL_law 668 = .ok (.iconst 2, 1) := by decide +kernel
theorem dL_law_669 : decode cL_law 669 = .ok (.iadd, 1) := by decide +kernel
theorem dL_law_670 : decode cL_law 670 = .ok (.iaload, 1) := by decide +kernel
theorem dL_law_671 : decode cL_law 671 = .ok (.aload_n 0, 1) := by decide +kernel
theorem dL_law_672 : decode cL_law 672 = .ok (.iload 4, 2) := by decide +kernel
theorem dL_law_674 : decode cL_law 674 = .ok (.iconst 3, 1) := by decide +kernel
theorem dL_law_675 : decode cL_law 675 = .ok (.iadd, 1) := by decide +kernel
theorem dL_law_676 : decode cL_law 676 = .ok (.iaload, 1) := by decide +kernel
theorem dL_law_677 : decode cL_law 677 = .ok (.aload_n 0, 1) := by decide +kernel
theorem dL_law_678 : decode cL_law 678 = .ok (.iload 4, 2) := by decide +kernel
theorem dL_law_680 : decode cL_law 680 = .ok (.iconst 4, 1) := by decide +kernel
theorem dL_law_681 : decode cL_law 681 = .ok (.iadd, 1) := by decide +kernel
theorem dL_law_682 : decode cL_law 682 = .ok (.iaload, 1) := by decide +kernel
theorem dL_law_683 : decode cL_law 683 = .ok (.invokevirtual 85, 3) := by decide +kernel
theorem dL_law_686 : decode cL_law 686 = .ok (.if_icmp .eq 1048, 3) := by decide +kernel
theorem dL_law_689 : decode cL_law 689 = .ok (.iconst 0, 1) := by decide +kernel
theorem dL_law_690 : decode cL_law 690 = .ok (.ireturn, 1) := by decide +kernel
theorem dL_law_691 : decode cL_law 691 = .ok (.aload_n 1, 1) := by decide +kernel
theorem dL_law_692 : decode cL_law 692 = .ok (.aload_n 0, 1) := by decide +kernel
theorem dL_law_693 : decode cL_law 693 = .ok (.iload 4, 2) := by decide +kernel
theorem dL_law_695 : decode cL_law 695 = .ok (.iconst 1, 1) := by decide +kernel
theorem dL_law_696 : decode cL_law 696 = .ok (.iadd, 1) := by decide +kernel
theorem dL_law_697 : decode cL_law 697 = .ok (.iaload, 1) := by decide +kernel
theorem dL_law_698 : decode cL_law 698 = .ok (.aload_n 0, 1) := by decide +kernel
theorem dL_law_699 : decode cL_law 699 = .ok (.iload 4, 2) := by decide +kernel
theorem dL_law_701 : decode cL_law 701 = .ok (.iconst 2, 1) := by decide +kernel
theorem dL_law_702 : decode cL_law 702 = .ok (.iadd, 1) := by decide +kernel
theorem dL_law_703 : decode cL_law 703 = .ok (.iaload, 1) := by decide +kernel
theorem dL_law_704 : decode cL_law 704 = .ok (.aload_n 0, 1) := by decide +kernel
theorem dL_law_705 : decode cL_law 705 = .ok (.iload 4, 2) := by decide +kernel
theorem dL_law_707 : decode cL_law 707 = .ok (.iconst 3, 1) := by decide +kernel
theorem dL_law_708 : decode cL_law 708 = .ok (.iadd, 1) := by decide +kernel
theorem dL_law_709 : decode cL_law 709 = .ok (.iaload, 1) := by decide +kernel
theorem dL_law_710 : decode cL_law 710 = .ok (.invokevirtual 86, 3) := by decide +kernel
theorem dL_law_713 : decode cL_law 713 = .ok (.aload_n 2, 1) := by decide +kernel
theorem dL_law_714 : decode cL_law 714 = .ok (.aload_n 0, 1) := by decide +kernel
theorem dL_law_715 : decode cL_law 715 = .ok (.iload 4, 2) := by decide +kernel
theorem dL_law_717 : decode cL_law 717 = .ok (.iconst 1, 1) := by decide +kernel
theorem dL_law_718 : decode cL_law 718 = .ok (.iadd, 1) := by decide +kernel
theorem dL_law_719 : decode cL_law 719 = .ok (.iaload, 1) := by decide +kernel
theorem dL_law_720 : decode cL_law 720 = .ok (.aload_n 0, 1) := by decide +kernel
theorem dL_law_721 : decode cL_law 721 = .ok (.iload 4, 2) := by decide +kernel
theorem dL_law_723 : decode cL_law 723 = .ok (.iconst 2, 1) := by decide +kernel
theorem dL_law_724 : decode cL_law 724 = .ok (.iadd, 1) := by decide +kernel
theorem dL_law_725 : decode cL_law 725 = .ok (.iaload, 1) := by decide +kernel
theorem dL_law_726 : decode cL_law 726 = .ok (.aload_n 0, 1) := by decide +kernel
theorem dL_law_727 : decode cL_law 727 = .ok (.iload 4, 2) := by decide +kernel
theorem dL_law_729 : decode cL_law 729 = .ok (.iconst 3, 1) := by decide +kernel
theorem dL_law_730 : decode cL_law 730 = .ok (.iadd, 1) := by decide +kernel
theorem dL_law_731 : decode cL_law 731 = .ok (.iaload, 1) := by decide +kernel
theorem dL_law_732 : decode cL_law 732 = .ok (.invokevirtual 89, 3) := by decide +kernel
theorem dL_law_735 : decode cL_law 735 = .ok (.if_icmp .eq 999, 3) := by decide +kernel
theorem dL_law_738 : decode cL_law 738 = .ok (.iconst 0, 1) := by decide +kernel
theorem dL_law_739 : decode cL_law 739 = .ok (.ireturn, 1) := by decide +kernel
theorem dL_law_740 : decode cL_law 740 = .ok (.aload_n 1, 1) := by decide +kernel
theorem dL_law_741 : decode cL_law 741 = .ok (.aload_n 0, 1) := by decide +kernel
theorem dL_law_742 : decode cL_law 742 = .ok (.iload 4, 2) := by decide +kernel
theorem dL_law_744 : decode cL_law 744 = .ok (.iconst 1, 1) := by decide +kernel
theorem dL_law_745 : decode cL_law 745 = .ok (.iadd, 1) := by decide +kernel
theorem dL_law_746 : decode cL_law 746 = .ok (.iaload, 1) := by decide +kernel
theorem dL_law_747 : decode cL_law 747 = .ok (.aload_n 0, 1) := by decide +kernel
theorem dL_law_748 : decode cL_law 748 = .ok (.iload 4, 2) := by decide +kernel
theorem dL_law_750 : decode cL_law 750 = .ok (.iconst 2, 1) := by decide +kernel
theorem dL_law_751 : decode cL_law 751 = .ok (.iadd, 1) := by decide +kernel
theorem dL_law_752 : decode cL_law 752 = .ok (.iaload, 1) := by decide +kernel
theorem dL_law_753 : decode cL_law 753 = .ok (.aload_n 0, 1) := by decide +kernel
theorem dL_law_754 : decode cL_law 754 = .ok (.iload 4, 2) := by decide +kernel
theorem dL_law_756 : decode cL_law 756 = .ok (.iconst 3, 1) := by decide +kernel
theorem dL_law_757 : decode cL_law 757 = .ok (.iadd, 1) := by decide +kernel
theorem dL_law_758 : decode cL_law 758 = .ok (.iaload, 1) := by decide +kernel
theorem dL_law_759 : decode cL_law 759 = .ok (.invokevirtual 90, 3) := by decide +kernel
theorem dL_law_762 : decode cL_law 762 = .ok (.aload_n 2, 1) := by decide +kernel
theorem dL_law_763 : decode cL_law 763 = .ok (.aload_n 0, 1) := by decide +kernel
theorem dL_law_764 : decode cL_law 764 = .ok (.iload 4, 2) := by decide +kernel
theorem dL_law_766 : decode cL_law 766 = .ok (.iconst 1, 1) := by decide +kernel
theorem dL_law_767 : decode cL_law 767 = .ok (.iadd, 1) := by decide +kernel
theorem dL_law_768 : decode cL_law 768 = .ok (.iaload, 1) := by decide +kernel
theorem dL_law_769 : decode cL_law 769 = .ok (.aload_n 0, 1) := by decide +kernel
theorem dL_law_770 : decode cL_law 770 = .ok (.iload 4, 2) := by decide +kernel
theorem dL_law_772 : decode cL_law 772 = .ok (.iconst 2, 1) := by decide +kernel
theorem dL_law_773 : decode cL_law 773 = .ok (.iadd, 1) := by decide +kernel
theorem dL_law_774 : decode cL_law 774 = .ok (.iaload, 1) := by decide +kernel
theorem dL_law_775 : decode cL_law 775 = .ok (.aload_n 0, 1) := by decide +kernel
theorem dL_law_776 : decode cL_law 776 = .ok (.iload 4, 2) := by decide +kernel
theorem dL_law_778 : decode cL_law 778 = .ok (.iconst 3, 1) := by decide +kernel
theorem dL_law_779 : decode cL_law 779 = .ok (.iadd, 1) := by decide +kernel
theorem dL_law_780 : decode cL_law 780 = .ok (.iaload, 1) := by decide +kernel
theorem dL_law_781 : decode cL_law 781 = .ok (.invokevirtual 94, 3) := by decide +kernel
theorem dL_law_784 : decode cL_law 784 = .ok (.lcmp, 1) := by decide +kernel
theorem dL_law_785 : decode cL_law 785 = .ok (.ifCond .eq 949, 3) := by decide +kernel
theorem dL_law_788 : decode cL_law 788 = .ok (.iconst 0, 1) := by decide +kernel
theorem dL_law_789 : decode cL_law 789 = .ok (.ireturn, 1) := by decide +kernel
theorem dL_law_790 : decode cL_law 790 = .ok (.aload_n 1, 1) := by decide +kernel
theorem dL_law_791 : decode cL_law 791 = .ok (.aload_n 0, 1) := by decide +kernel
theorem dL_law_792 : decode cL_law 792 = .ok (.iload 4, 2) := by decide +kernel
theorem dL_law_794 : decode cL_law 794 = .ok (.iconst 1, 1) := by decide +kernel
theorem dL_law_795 : decode cL_law 795 = .ok (.iadd, 1) := by decide +kernel
theorem dL_law_796 : decode cL_law 796 = .ok (.iaload, 1) := by decide +kernel
theorem dL_law_797 : decode cL_law 797 = .ok (.aload_n 0, 1) := by decide +kernel
theorem dL_law_798 : decode cL_law 798 = .ok (.iload 4, 2) := by decide +kernel
theorem dL_law_800 : decode cL_law 800 = .ok (.iconst 2, 1) := by decide +kernel
theorem dL_law_801 : decode cL_law 801 = .ok (.iadd, 1) := by decide +kernel
theorem dL_law_802 : decode cL_law 802 = .ok (.iaload, 1) := by decide +kernel
theorem dL_law_803 : decode cL_law 803 = .ok (.invokevirtual 95, 3) := by decide +kernel
theorem dL_law_806 : decode cL_law 806 = .ok (.aload_n 2, 1) := by decide +kernel
theorem dL_law_807 : decode cL_law 807 = .ok (.aload_n 0, 1) := by decide +kernel
theorem dL_law_808 : decode cL_law 808 = .ok (.iload 4, 2) := by decide +kernel
theorem dL_law_810 : decode cL_law 810 = .ok (.iconst 1, 1) := by decide +kernel
theorem dL_law_811 : decode cL_law 811 = .ok (.iadd, 1) := by decide +kernel
theorem dL_law_812 : decode cL_law 812 = .ok (.iaload, 1) := by decide +kernel
theorem dL_law_813 : decode cL_law 813 = .ok (.aload_n 0, 1) := by decide +kernel
theorem dL_law_814 : decode cL_law 814 = .ok (.iload 4, 2) := by decide +kernel
theorem dL_law_816 : decode cL_law 816 = .ok (.iconst 2, 1) := by decide +kernel
theorem dL_law_817 : decode cL_law 817 = .ok (.iadd, 1) := by decide +kernel
theorem dL_law_818 : decode cL_law 818 = .ok (.iaload, 1) := by decide +kernel
theorem dL_law_819 : decode cL_law 819 = .ok (.invokevirtual 98, 3) := by decide +kernel
theorem dL_law_822 : decode cL_law 822 = .ok (.if_icmp .eq 912, 3) := by decide +kernel
theorem dL_law_825 : decode cL_law 825 = .ok (.iconst 0, 1) := by decide +kernel
theorem dL_law_826 : decode cL_law 826 = .ok (.ireturn, 1) := by decide +kernel
theorem dL_law_827 : decode cL_law 827 = .ok (.aload_n 1, 1) := by decide +kernel
theorem dL_law_828 : decode cL_law 828 = .ok (.aload_n 0, 1) := by decide +kernel
theorem dL_law_829 : decode cL_law 829 = .ok (.iload 4, 2) := by decide +kernel
theorem dL_law_831 : decode cL_law 831 = .ok (.iconst 1, 1) := by decide +kernel
theorem dL_law_832 : decode cL_law 832 = .ok (.iadd, 1) := by decide +kernel
theorem dL_law_833 : decode cL_law 833 = .ok (.iaload, 1) := by decide +kernel
theorem dL_law_834 : decode cL_law 834 = .ok (.aload_n 0, 1) := by decide +kernel
theorem dL_law_835 : decode cL_law 835 = .ok (.iload 4, 2) := by decide +kernel
theorem dL_law_837 : decode cL_law 837 = .ok (.iconst 2, 1) := by decide +kernel
theorem dL_law_838 : decode cL_law 838 = .ok (.iadd, 1) := by decide +kernel
theorem dL_law_839 : decode cL_law 839 = .ok (.iaload, 1) := by decide +kernel
theorem dL_law_840 : decode cL_law 840 = .ok (.invokevirtual 99, 3) := by decide +kernel
theorem dL_law_843 : decode cL_law 843 = .ok (.aload_n 2, 1) := by decide +kernel
theorem dL_law_844 : decode cL_law 844 = .ok (.aload_n 0, 1) := by decide +kernel
theorem dL_law_845 : decode cL_law 845 = .ok (.iload 4, 2) := by decide +kernel
theorem dL_law_847 : decode cL_law 847 = .ok (.iconst 1, 1) := by decide +kernel
theorem dL_law_848 : decode cL_law 848 = .ok (.iadd, 1) := by decide +kernel
theorem dL_law_849 : decode cL_law 849 = .ok (.iaload, 1) := by decide +kernel
theorem dL_law_850 : decode cL_law 850 = .ok (.aload_n 0, 1) := by decide +kernel
theorem dL_law_851 : decode cL_law 851 = .ok (.iload 4, 2) := by decide +kernel
theorem dL_law_853 : decode cL_law 853 = .ok (.iconst 2, 1) := by decide +kernel
theorem dL_law_854 : decode cL_law 854 = .ok (.iadd, 1) := by decide +kernel
theorem dL_law_855 : decode cL_law 855 = .ok (.iaload, 1) := by decide +kernel
theorem dL_law_856 : decode cL_law 856 = .ok (.invokevirtual 102, 3) := by decide +kernel
theorem dL_law_859 : decode cL_law 859 = .ok (.if_icmp .eq 875, 3) := by decide +kernel
theorem dL_law_862 : decode cL_law 862 = .ok (.iconst 0, 1) := by decide +kernel
theorem dL_law_863 : decode cL_law 863 = .ok (.ireturn, 1) := by decide +kernel
theorem dL_law_864 : decode cL_law 864 = .ok (.aload_n 1, 1) := by decide +kernel
theorem dL_law_865 : decode cL_law 865 = .ok (.aload_n 0, 1) := by decide +kernel
theorem dL_law_866 : decode cL_law 866 = .ok (.iload 4, 2) := by decide +kernel
theorem dL_law_868 : decode cL_law 868 = .ok (.iconst 1, 1) := by decide +kernel
theorem dL_law_869 : decode cL_law 869 = .ok (.iadd, 1) := by decide +kernel
theorem dL_law_870 : decode cL_law 870 = .ok (.iaload, 1) := by decide +kernel
theorem dL_law_871 : decode cL_law 871 = .ok (.invokevirtual 103, 3) := by decide +kernel
theorem dL_law_874 : decode cL_law 874 = .ok (.aload_n 2, 1) := by decide +kernel
theorem dL_law_875 : decode cL_law 875 = .ok (.aload_n 0, 1) := by decide +kernel
theorem dL_law_876 : decode cL_law 876 = .ok (.iload 4, 2) := by decide +kernel
theorem dL_law_878 : decode cL_law 878 = .ok (.iconst 1, 1) := by decide +kernel
theorem dL_law_879 : decode cL_law 879 = .ok (.iadd, 1) := by decide +kernel
theorem dL_law_880 : decode cL_law 880 = .ok (.iaload, 1) := by decide +kernel
theorem dL_law_881 : decode cL_law 881 = .ok (.invokevirtual 106, 3) := by decide +kernel
theorem dL_law_884 : decode cL_law 884 = .ok (.if_icmp .eq 850, 3) := by decide +kernel
theorem dL_law_887 : decode cL_law 887 = .ok (.iconst 0, 1) := by decide +kernel
theorem dL_law_888 : decode cL_law 888 = .ok (.ireturn, 1) := by decide +kernel
theorem dL_law_889 : decode cL_law 889 = .ok (.aload_n 1, 1) := by decide +kernel
theorem dL_law_890 : decode cL_law 890 = .ok (.aload_n 0, 1) := by decide +kernel
theorem dL_law_891 : decode cL_law 891 = .ok (.iload 4, 2) := by decide +kernel
theorem dL_law_893 : decode cL_law 893 = .ok (.iconst 1, 1) := by decide +kernel
theorem dL_law_894 : decode cL_law 894 = .ok (.iadd, 1) := by decide +kernel
theorem dL_law_895 : decode cL_law 895 = .ok (.iaload, 1) := by decide +kernel
theorem dL_law_896 : decode cL_law 896 = .ok (.aload_n 0, 1) := by decide +kernel
theorem dL_law_897 : decode cL_law 897 = .ok (.iload 4, 2) := by decide +kernel
theorem dL_law_899 : decode cL_law 899 = .ok (.iconst 2, 1) := by decide +kernel
theorem dL_law_900 : decode cL_law 900 = .ok (.iadd, 1) := by decide +kernel
theorem dL_law_901 : decode cL_law 901 = .ok (.iaload, 1) := by decide +kernel
theorem dL_law_902 : decode cL_law 902 = .ok (.invokevirtual 107, 3) := by decide +kernel
theorem dL_law_905 : decode cL_law 905 = .ok (.aload_n 2, 1) := by decide +kernel
theorem dL_law_906 : decode cL_law 906 = .ok (.aload_n 0, 1) := by decide +kernel
theorem dL_law_907 : decode cL_law 907 = .ok (.iload 4, 2) := by decide +kernel
theorem dL_law_909 : decode cL_law 909 = .ok (.iconst 1, 1) := by decide +kernel
theorem dL_law_910 : decode cL_law 910 = .ok (.iadd, 1) := by decide +kernel
theorem dL_law_911 : decode cL_law 911 = .ok (.iaload, 1) := by decide +kernel
theorem dL_law_912 : decode cL_law 912 = .ok (.aload_n 0, 1) := by decide +kernel
theorem dL_law_913 : decode cL_law 913 = .ok (.iload 4, 2) := by decide +kernel
theorem dL_law_915 : decode cL_law 915 = .ok (.iconst 2, 1) := by decide +kernel
theorem dL_law_916 : decode cL_law 916 = .ok (.iadd, 1) := by decide +kernel
theorem dL_law_917 : decode cL_law 917 = .ok (.iaload, 1) := by decide +kernel
theorem dL_law_918 : decode cL_law 918 = .ok (.invokevirtual 110, 3) := by decide +kernel
theorem dL_law_921 : decode cL_law 921 = .ok (.if_icmp .eq 813, 3) := by decide +kernel
theorem dL_law_924 : decode cL_law 924 = .ok (.iconst 0, 1) := by decide +kernel
theorem dL_law_925 : decode cL_law 925 = .ok (.ireturn, 1) := by decide +kernel
theorem dL_law_926 : decode cL_law 926 = .ok (.aload_n 1, 1) := by decide +kernel
theorem dL_law_927 : decode cL_law 927 = .ok (.aload_n 0, 1) := by decide +kernel
theorem dL_law_928 : decode cL_law 928 = .ok (.iload 4, 2) := by decide +kernel
theorem dL_law_930 : decode cL_law 930 = .ok (.iconst 1, 1) := by decide +kernel
theorem dL_law_931 : decode cL_law 931 = .ok (.iadd, 1) := by decide +kernel
theorem dL_law_932 : decode cL_law 932 = .ok (.iaload, 1) := by decide +kernel
theorem dL_law_933 : decode cL_law 933 = .ok (.aload_n 0, 1) := by decide +kernel
theorem dL_law_934 : decode cL_law 934 = .ok (.iload 4, 2) := by decide +kernel
theorem dL_law_936 : decode cL_law 936 = .ok (.iconst 2, 1) := by decide +kernel
theorem dL_law_937 : decode cL_law 937 = .ok (.iadd, 1) := by decide +kernel
theorem dL_law_938 : decode cL_law 938 = .ok (.iaload, 1) := by decide +kernel
theorem dL_law_939 : decode cL_law 939 = .ok (.invokevirtual 111, 3) := by decide +kernel
theorem dL_law_942 : decode cL_law 942 = .ok (.aload_n 2, 1) := by decide +kernel
theorem dL_law_943 : decode cL_law 943 = .ok (.aload_n 0, 1) := by decide +kernel
theorem dL_law_944 : decode cL_law 944 = .ok (.iload 4, 2) := by decide +kernel
theorem dL_law_946 : decode cL_law 946 = .ok (.iconst 1, 1) := by decide +kernel
theorem dL_law_947 : decode cL_law 947 = .ok (.iadd, 1) := by decide +kernel
theorem dL_law_948 : decode cL_law 948 = .ok (.iaload, 1) := by decide +kernel
theorem dL_law_949 : decode cL_law 949 = .ok (.aload_n 0, 1) := by decide +kernel
theorem dL_law_950 : decode cL_law 950 = .ok (.iload 4, 2) := by decide +kernel
theorem dL_law_952 : decode cL_law 952 = .ok (.iconst 2, 1) := by decide +kernel
theorem dL_law_953 : decode cL_law 953 = .ok (.iadd, 1) := by decide +kernel
theorem dL_law_954 : decode cL_law 954 = .ok (.iaload, 1) := by decide +kernel
theorem dL_law_955 : decode cL_law 955 = .ok (.invokevirtual 114, 3) := by decide +kernel
theorem dL_law_958 : decode cL_law 958 = .ok (.if_icmp .eq 776, 3) := by decide +kernel
theorem dL_law_961 : decode cL_law 961 = .ok (.iconst 0, 1) := by decide +kernel
theorem dL_law_962 : decode cL_law 962 = .ok (.ireturn, 1) := by decide +kernel
theorem dL_law_963 : decode cL_law 963 = .ok (.aload_n 1, 1) := by decide +kernel
theorem dL_law_964 : decode cL_law 964 = .ok (.aload_n 0, 1) := by decide +kernel
theorem dL_law_965 : decode cL_law 965 = .ok (.iload 4, 2) := by decide +kernel
theorem dL_law_967 : decode cL_law 967 = .ok (.iconst 1, 1) := by decide +kernel
theorem dL_law_968 : decode cL_law 968 = .ok (.iadd, 1) := by decide +kernel
theorem dL_law_969 : decode cL_law 969 = .ok (.iaload, 1) := by decide +kernel
theorem dL_law_970 : decode cL_law 970 = .ok (.aload_n 0, 1) := by decide +kernel
theorem dL_law_971 : decode cL_law 971 = .ok (.iload 4, 2) := by decide +kernel
theorem dL_law_973 : decode cL_law 973 = .ok (.iconst 2, 1) := by decide +kernel
theorem dL_law_974 : decode cL_law 974 = .ok (.iadd, 1) := by decide +kernel
theorem dL_law_975 : decode cL_law 975 = .ok (.iaload, 1) := by decide +kernel
theorem dL_law_976 : decode cL_law 976 = .ok (.aload_n 0, 1) := by decide +kernel
theorem dL_law_977 : decode cL_law 977 = .ok (.iload 4, 2) := by decide +kernel
theorem dL_law_979 : decode cL_law 979 = .ok (.iconst 3, 1) := by decide +kernel
theorem dL_law_980 : decode cL_law 980 = .ok (.iadd, 1) := by decide +kernel
theorem dL_law_981 : decode cL_law 981 = .ok (.iaload, 1) := by decide +kernel
theorem dL_law_982 : decode cL_law 982 = .ok (.invokevirtual 115, 3) := by decide +kernel
theorem dL_law_985 : decode cL_law 985 = .ok (.aload_n 2, 1) := by decide +kernel
theorem dL_law_986 : decode cL_law 986 = .ok (.aload_n 0, 1) := by decide +kernel
theorem dL_law_987 : decode cL_law 987 = .ok (.iload 4, 2) := by decide +kernel
theorem dL_law_989 : decode cL_law 989 = .ok (.iconst 1, 1) := by decide +kernel
theorem dL_law_990 : decode cL_law 990 = .ok (.iadd, 1) := by decide +kernel
theorem dL_law_991 : decode cL_law 991 = .ok (.iaload, 1) := by decide +kernel
theorem dL_law_992 : decode cL_law 992 = .ok (.aload_n 0, 1) := by decide +kernel
theorem dL_law_993 : decode cL_law 993 = .ok (.iload 4, 2) := by decide +kernel
theorem dL_law_995 : decode cL_law 995 = .ok (.iconst 2, 1) := by decide +kernel
theorem dL_law_996 : decode cL_law 996 = .ok (.iadd, 1) := by decide +kernel
theorem dL_law_997 : decode cL_law 997 = .ok (.iaload, 1) := by decide +kernel
theorem dL_law_998 : decode cL_law 998 = .ok (.aload_n 0, 1) := by decide +kernel
theorem dL_law_999 : decode cL_law 999 = .ok (.iload 4, 2) := by decide +kernel
theorem dL_law_1001 : decode cL_law 1001 = .ok (.iconst 3, 1) := by decide +kernel
theorem dL_law_1002 : decode cL_law 1002 = .ok (.iadd, 1) := by decide +kernel
theorem dL_law_1003 : decode cL_law 1003 = .ok (.iaload, 1) := by decide +kernel
theorem dL_law_1004 : decode cL_law 1004 = .ok (.invokevirtual 118, 3) := by decide +kernel
theorem dL_law_1007 : decode cL_law 1007 = .ok (.if_icmp .eq 727, 3) := by decide +kernel
theorem dL_law_1010 : decode cL_law 1010 = .ok (.iconst 0, 1) := by decide +kernel
theorem dL_law_1011 : decode cL_law 1011 = .ok (.ireturn, 1) := by decide +kernel
theorem dL_law_1012 : decode cL_law 1012 = .ok (.aload_n 1, 1) := by decide +kernel
theorem dL_law_1013 : decode cL_law 1013 = .ok (.aload_n 0, 1) := by decide +kernel
theorem dL_law_1014 : decode cL_law 1014 = .ok (.iload 4, 2) := by decide +kernel
theorem dL_law_1016 : decode cL_law 1016 = .ok (.iconst 1, 1) := by decide +kernel
theorem dL_law_1017 : decode cL_law 1017 = .ok (.iadd, 1) := by decide +kernel
theorem dL_law_1018 : decode cL_law 1018 = .ok (.iaload, 1) := by decide +kernel
theorem dL_law_1019 : decode cL_law 1019 = .ok (.invokevirtual 119, 3) := by decide +kernel
theorem dL_law_1022 : decode cL_law 1022 = .ok (.aload_n 2, 1) := by decide +kernel
theorem dL_law_1023 : decode cL_law 1023 = .ok (.aload_n 0, 1) := by decide +kernel
theorem dL_law_1024 : decode cL_law 1024 = .ok (.iload 4, 2) := by decide +kernel
theorem dL_law_1026 : decode cL_law 1026 = .ok (.iconst 1, 1) := by decide +kernel
theorem dL_law_1027 : decode cL_law 1027 = .ok (.iadd, 1) := by decide +kernel
theorem dL_law_1028 : decode cL_law 1028 = .ok (.iaload, 1) := by decide +kernel
theorem dL_law_1029 : decode cL_law 1029 = .ok (.invokevirtual 122, 3) := by decide +kernel
theorem dL_law_1032 : decode cL_law 1032 = .ok (.if_icmp .eq 702, 3) := by decide +kernel
theorem dL_law_1035 : decode cL_law 1035 = .ok (.iconst 0, 1) := by decide +kernel
theorem dL_law_1036 : decode cL_law 1036 = .ok (.ireturn, 1) := by decide +kernel
theorem dL_law_1037 : decode cL_law 1037 = .ok (.aload_n 1, 1) := by decide +kernel
theorem dL_law_1038 : decode cL_law 1038 = .ok (.aload_n 0, 1) := by decide +kernel
theorem dL_law_1039 : decode cL_law 1039 = .ok (.iload 4, 2) := by decide +kernel
theorem dL_law_1041 : decode cL_law 1041 = .ok (.iconst 1, 1) := by decide +kernel
theorem dL_law_1042 : decode cL_law 1042 = .ok (.iadd, 1) := by decide +kernel
theorem dL_law_1043 : decode cL_law 1043 = .ok (.iaload, 1) := by decide +kernel
theorem dL_law_1044 : decode cL_law 1044 = .ok (.aload_n 0, 1) := by decide +kernel
theorem dL_law_1045 : decode cL_law 1045 = .ok (.iload 4, 2) := by decide +kernel
theorem dL_law_1047 : decode cL_law 1047 = .ok (.iconst 2, 1) := by decide +kernel
theorem dL_law_1048 : decode cL_law 1048 = .ok (.iadd, 1) := by decide +kernel
theorem dL_law_1049 : decode cL_law 1049 = .ok (.iaload, 1) := by decide +kernel
theorem dL_law_1050 : decode cL_law 1050 = .ok (.aload_n 0, 1) := by decide +kernel
theorem dL_law_1051 : decode cL_law 1051 = .ok (.iload 4, 2) := by decide +kernel
theorem dL_law_1053 : decode cL_law 1053 = .ok (.iconst 3, 1) := by decide +kernel
theorem dL_law_1054 : decode cL_law 1054 = .ok (.iadd, 1) := by decide +kernel
theorem dL_law_1055 : decode cL_law 1055 = .ok (.iaload, 1) := by decide +kernel
theorem dL_law_1056 : decode cL_law 1056 = .ok (.invokevirtual 123, 3) := by decide +kernel
theorem dL_law_1059 : decode cL_law 1059 = .ok (.aload_n 2, 1) := by decide +kernel
theorem dL_law_1060 : decode cL_law 1060 = .ok (.aload_n 0, 1) := by decide +kernel
theorem dL_law_1061 : decode cL_law 1061 = .ok (.iload 4, 2) := by decide +kernel
theorem dL_law_1063 : decode cL_law 1063 = .ok (.iconst 1, 1) := by decide +kernel
theorem dL_law_1064 : decode cL_law 1064 = .ok (.iadd, 1) := by decide +kernel
theorem dL_law_1065 : decode cL_law 1065 = .ok (.iaload, 1) := by decide +kernel
theorem dL_law_1066 : decode cL_law 1066 = .ok (.aload_n 0, 1) := by decide +kernel
theorem dL_law_1067 : decode cL_law 1067 = .ok (.iload 4, 2) := by decide +kernel
theorem dL_law_1069 : decode cL_law 1069 = .ok (.iconst 2, 1) := by decide +kernel
theorem dL_law_1070 : decode cL_law 1070 = .ok (.iadd, 1) := by decide +kernel
theorem dL_law_1071 : decode cL_law 1071 = .ok (.iaload, 1) := by decide +kernel
theorem dL_law_1072 : decode cL_law 1072 = .ok (.aload_n 0, 1) := by decide +kernel
theorem dL_law_1073 : decode cL_law 1073 = .ok (.iload 4, 2) := by decide +kernel
theorem dL_law_1075 : decode cL_law 1075 = .ok (.iconst 3, 1) := by decide +kernel
theorem dL_law_1076 : decode cL_law 1076 = .ok (.iadd, 1) := by decide +kernel
theorem dL_law_1077 : decode cL_law 1077 = .ok (.iaload, 1) := by decide +kernel
theorem dL_law_1078 : decode cL_law 1078 = .ok (.invokevirtual 126, 3) := by decide +kernel
theorem dL_law_1081 : decode cL_law 1081 = .ok (.if_icmp .eq 653, 3) := by decide +kernel
theorem dL_law_1084 : decode cL_law 1084 = .ok (.iconst 0, 1) := by decide +kernel
theorem dL_law_1085 : decode cL_law 1085 = .ok (.ireturn, 1) := by decide +kernel
theorem dL_law_1086 : decode cL_law 1086 = .ok (.aload_n 1, 1) := by decide +kernel
theorem dL_law_1087 : decode cL_law 1087 = .ok (.aload_n 0, 1) := by decide +kernel
theorem dL_law_1088 : decode cL_law 1088 = .ok (.iload 4, 2) := by decide +kernel
theorem dL_law_1090 : decode cL_law 1090 = .ok (.iconst 1, 1) := by decide +kernel
theorem dL_law_1091 : decode cL_law 1091 = .ok (.iadd, 1) := by decide +kernel
theorem dL_law_1092 : decode cL_law 1092 = .ok (.iaload, 1) := by decide +kernel
theorem dL_law_1093 : decode cL_law 1093 = .ok (.aload_n 0, 1) := by decide +kernel
theorem dL_law_1094 : decode cL_law 1094 = .ok (.iload 4, 2) := by decide +kernel
theorem dL_law_1096 : decode cL_law 1096 = .ok (.iconst 2, 1) := by decide +kernel
theorem dL_law_1097 : decode cL_law 1097 = .ok (.iadd, 1) := by decide +kernel
theorem dL_law_1098 : decode cL_law 1098 = .ok (.iaload, 1) := by decide +kernel
theorem dL_law_1099 : decode cL_law 1099 = .ok (.aload_n 0, 1) := by decide +kernel
theorem dL_law_1100 : decode cL_law 1100 = .ok (.iload 4, 2) := by decide +kernel
theorem dL_law_1102 : decode cL_law 1102 = .ok (.iconst 3, 1) := by decide +kernel
theorem dL_law_1103 : decode cL_law 1103 = .ok (.iadd, 1) := by decide +kernel
theorem dL_law_1104 : decode cL_law 1104 = .ok (.iaload, 1) := by decide +kernel
theorem dL_law_1105 : decode cL_law 1105 = .ok (.invokevirtual 127, 3) := by decide +kernel
theorem dL_law_1108 : decode cL_law 1108 = .ok (.aload_n 2, 1) := by decide +kernel
theorem dL_law_1109 : decode cL_law 1109 = .ok (.aload_n 0, 1) := by decide +kernel
theorem dL_law_1110 : decode cL_law 1110 = .ok (.iload 4, 2) := by decide +kernel
theorem dL_law_1112 : decode cL_law 1112 = .ok (.iconst 1, 1) := by decide +kernel
theorem dL_law_1113 : decode cL_law 1113 = .ok (.iadd, 1) := by decide +kernel
theorem dL_law_1114 : decode cL_law 1114 = .ok (.iaload, 1) := by decide +kernel
theorem dL_law_1115 : decode cL_law 1115 = .ok (.aload_n 0, 1) := by decide +kernel
theorem dL_law_1116 : decode cL_law 1116 = .ok (.iload 4, 2) := by decide +kernel
theorem dL_law_1118 : decode cL_law 1118 = .ok (.iconst 2, 1) := by decide +kernel
theorem dL_law_1119 : decode cL_law 1119 = .ok (.iadd, 1) := by decide +kernel
theorem dL_law_1120 : decode cL_law 1120 = .ok (.iaload, 1) := by decide +kernel
theorem dL_law_1121 : decode cL_law 1121 = .ok (.aload_n 0, 1) := by decide +kernel
theorem dL_law_1122 : decode cL_law 1122 = .ok (.iload 4, 2) := by decide +kernel
theorem dL_law_1124 : decode cL_law 1124 = .ok (.iconst 3, 1) := by decide +kernel
theorem dL_law_1125 : decode cL_law 1125 = .ok (.iadd, 1) := by decide +kernel
theorem dL_law_1126 : decode cL_law 1126 = .ok (.iaload, 1) := by decide +kernel
theorem dL_law_1127 : decode cL_law 1127 = .ok (.invokevirtual 130, 3) := by decide +kernel
theorem dL_law_1130 : decode cL_law 1130 = .ok (.if_icmp .eq 604, 3) := by decide +kernel
theorem dL_law_1133 : decode cL_law 1133 = .ok (.iconst 0, 1) := by decide +kernel
theorem dL_law_1134 : decode cL_law 1134 = .ok (.ireturn, 1) := by decide +kernel
theorem dL_law_1135 : decode cL_law 1135 = .ok (.aload_n 1, 1) := by decide +kernel
theorem dL_law_1136 : decode cL_law 1136 = .ok (.aload_n 0, 1) := by decide +kernel
theorem dL_law_1137 : decode cL_law 1137 = .ok (.iload 4, 2) := by decide +kernel
theorem dL_law_1139 : decode cL_law 1139 = .ok (.iconst 1, 1) := by decide +kernel
theorem dL_law_1140 : decode cL_law 1140 = .ok (.iadd, 1) := by decide +kernel
theorem dL_law_1141 : decode cL_law 1141 = .ok (.iaload, 1) := by decide +kernel
theorem dL_law_1142 : decode cL_law 1142 = .ok (.aload_n 0, 1) := by decide +kernel
theorem dL_law_1143 : decode cL_law 1143 = .ok (.iload 4, 2) := by decide +kernel
theorem dL_law_1145 : decode cL_law 1145 = .ok (.iconst 2, 1) := by decide +kernel
theorem dL_law_1146 : decode cL_law 1146 = .ok (.iadd, 1) := by decide +kernel
theorem dL_law_1147 : decode cL_law 1147 = .ok (.iaload, 1) := by decide +kernel
theorem dL_law_1148 : decode cL_law 1148 = .ok (.aload_n 0, 1) := by decide +kernel
theorem dL_law_1149 : decode cL_law 1149 = .ok (.iload 4, 2) := by decide +kernel
theorem dL_law_1151 : decode cL_law 1151 = .ok (.iconst 3, 1) := by decide +kernel
theorem dL_law_1152 : decode cL_law 1152 = .ok (.iadd, 1) := by decide +kernel
theorem dL_law_1153 : decode cL_law 1153 = .ok (.iaload, 1) := by decide +kernel
theorem dL_law_1154 : decode cL_law 1154 = .ok (.aload_n 0, 1) := by decide +kernel
theorem dL_law_1155 : decode cL_law 1155 = .ok (.iload 4, 2) := by decide +kernel
theorem dL_law_1157 : decode cL_law 1157 = .ok (.iconst 4, 1) := by decide +kernel
theorem dL_law_1158 : decode cL_law 1158 = .ok (.iadd, 1) := by decide +kernel
theorem dL_law_1159 : decode cL_law 1159 = .ok (.iaload, 1) := by decide +kernel
theorem dL_law_1160 : decode cL_law 1160 = .ok (.invokevirtual 131, 3) := by decide +kernel
theorem dL_law_1163 : decode cL_law 1163 = .ok (.aload_n 2, 1) := by decide +kernel
theorem dL_law_1164 : decode cL_law 1164 = .ok (.aload_n 0, 1) := by decide +kernel
theorem dL_law_1165 : decode cL_law 1165 = .ok (.iload 4, 2) := by decide +kernel
theorem dL_law_1167 : decode cL_law 1167 = .ok (.iconst 1, 1) := by decide +kernel
theorem dL_law_1168 : decode cL_law 1168 = .ok (.iadd, 1) := by decide +kernel
theorem dL_law_1169 : decode cL_law 1169 = .ok (.iaload, 1) := by decide +kernel
theorem dL_law_1170 : decode cL_law 1170 = .ok (.aload_n 0, 1) := by decide +kernel
theorem dL_law_1171 : decode cL_law 1171 = .ok (.iload 4, 2) := by decide +kernel
theorem dL_law_1173 : decode cL_law 1173 = .ok (.iconst 2, 1) := by decide +kernel
theorem dL_law_1174 : decode cL_law 1174 = .ok (.iadd, 1) := by decide +kernel
theorem dL_law_1175 : decode cL_law 1175 = .ok (.iaload, 1) := by decide +kernel
theorem dL_law_1176 : decode cL_law 1176 = .ok (.aload_n 0, 1) := by decide +kernel
theorem dL_law_1177 : decode cL_law 1177 = .ok (.iload 4, 2) := by decide +kernel
theorem dL_law_1179 : decode cL_law 1179 = .ok (.iconst 3, 1) := by decide +kernel
theorem dL_law_1180 : decode cL_law 1180 = .ok (.iadd, 1) := by decide +kernel
theorem dL_law_1181 : decode cL_law 1181 = .ok (.iaload, 1) := by decide +kernel
theorem dL_law_1182 : decode cL_law 1182 = .ok (.aload_n 0, 1) := by decide +kernel
theorem dL_law_1183 : decode cL_law 1183 = .ok (.iload 4, 2) := by decide +kernel
theorem dL_law_1185 : decode cL_law 1185 = .ok (.iconst 4, 1) := by decide +kernel
theorem dL_law_1186 : decode cL_law 1186 = .ok (.iadd, 1) := by decide +kernel
theorem dL_law_1187 : decode cL_law 1187 = .ok (.iaload, 1) := by decide +kernel
theorem dL_law_1188 : decode cL_law 1188 = .ok (.invokevirtual 135, 3) := by decide +kernel
theorem dL_law_1191 : decode cL_law 1191 = .ok (.lcmp, 1) := by decide +kernel
theorem dL_law_1192 : decode cL_law 1192 = .ok (.ifCond .eq 542, 3) := by decide +kernel
theorem dL_law_1195 : decode cL_law 1195 = .ok (.iconst 0, 1) := by decide +kernel
theorem dL_law_1196 : decode cL_law 1196 = .ok (.ireturn, 1) := by decide +kernel
theorem dL_law_1197 : decode cL_law 1197 = .ok (.aload_n 1, 1) := by decide +kernel
theorem dL_law_1198 : decode cL_law 1198 = .ok (.aload_n 0, 1) := by decide +kernel
theorem dL_law_1199 : decode cL_law 1199 = .ok (.iload 4, 2) := by decide +kernel
theorem dL_law_1201 : decode cL_law 1201 = .ok (.iconst 1, 1) := by decide +kernel
theorem dL_law_1202 : decode cL_law 1202 = .ok (.iadd, 1) := by decide +kernel
theorem dL_law_1203 : decode cL_law 1203 = .ok (.iaload, 1) := by decide +kernel
theorem dL_law_1204 : decode cL_law 1204 = .ok (.aload_n 0, 1) := by decide +kernel
theorem dL_law_1205 : decode cL_law 1205 = .ok (.iload 4, 2) := by decide +kernel
theorem dL_law_1207 : decode cL_law 1207 = .ok (.iconst 2, 1) := by decide +kernel
theorem dL_law_1208 : decode cL_law 1208 = .ok (.iadd, 1) := by decide +kernel
theorem dL_law_1209 : decode cL_law 1209 = .ok (.iaload, 1) := by decide +kernel
theorem dL_law_1210 : decode cL_law 1210 = .ok (.invokevirtual 136, 3) := by decide +kernel
theorem dL_law_1213 : decode cL_law 1213 = .ok (.aload_n 2, 1) := by decide +kernel
theorem dL_law_1214 : decode cL_law 1214 = .ok (.aload_n 0, 1) := by decide +kernel
theorem dL_law_1215 : decode cL_law 1215 = .ok (.iload 4, 2) := by decide +kernel
theorem dL_law_1217 : decode cL_law 1217 = .ok (.iconst 1, 1) := by decide +kernel
theorem dL_law_1218 : decode cL_law 1218 = .ok (.iadd, 1) := by decide +kernel
theorem dL_law_1219 : decode cL_law 1219 = .ok (.iaload, 1) := by decide +kernel
theorem dL_law_1220 : decode cL_law 1220 = .ok (.aload_n 0, 1) := by decide +kernel
theorem dL_law_1221 : decode cL_law 1221 = .ok (.iload 4, 2) := by decide +kernel
theorem dL_law_1223 : decode cL_law 1223 = .ok (.iconst 2, 1) := by decide +kernel
theorem dL_law_1224 : decode cL_law 1224 = .ok (.iadd, 1) := by decide +kernel
theorem dL_law_1225 : decode cL_law 1225 = .ok (.iaload, 1) := by decide +kernel
theorem dL_law_1226 : decode cL_law 1226 = .ok (.invokevirtual 139, 3) := by decide +kernel
theorem dL_law_1229 : decode cL_law 1229 = .ok (.lcmp, 1) := by decide +kernel
theorem dL_law_1230 : decode cL_law 1230 = .ok (.ifCond .eq 504, 3) := by decide +kernel
theorem dL_law_1233 : decode cL_law 1233 = .ok (.iconst 0, 1) := by decide +kernel
theorem dL_law_1234 : decode cL_law 1234 = .ok (.ireturn, 1) := by decide +kernel
theorem dL_law_1235 : decode cL_law 1235 = .ok (.aload_n 1, 1) := by decide +kernel
theorem dL_law_1236 : decode cL_law 1236 = .ok (.aload_n 0, 1) := by decide +kernel
theorem dL_law_1237 : decode cL_law 1237 = .ok (.iload 4, 2) := by decide +kernel
theorem dL_law_1239 : decode cL_law 1239 = .ok (.iconst 1, 1) := by decide +kernel
theorem dL_law_1240 : decode cL_law 1240 = .ok (.iadd, 1) := by decide +kernel
theorem dL_law_1241 : decode cL_law 1241 = .ok (.iaload, 1) := by decide +kernel
theorem dL_law_1242 : decode cL_law 1242 = .ok (.invokevirtual 140, 3) := by decide +kernel
theorem dL_law_1245 : decode cL_law 1245 = .ok (.aload_n 2, 1) := by decide +kernel
theorem dL_law_1246 : decode cL_law 1246 = .ok (.aload_n 0, 1) := by decide +kernel
theorem dL_law_1247 : decode cL_law 1247 = .ok (.iload 4, 2) := by decide +kernel
theorem dL_law_1249 : decode cL_law 1249 = .ok (.iconst 1, 1) := by decide +kernel
theorem dL_law_1250 : decode cL_law 1250 = .ok (.iadd, 1) := by decide +kernel
theorem dL_law_1251 : decode cL_law 1251 = .ok (.iaload, 1) := by decide +kernel
theorem dL_law_1252 : decode cL_law 1252 = .ok (.invokevirtual 143, 3) := by decide +kernel
theorem dL_law_1255 : decode cL_law 1255 = .ok (.if_icmp .eq 479, 3) := by decide +kernel
theorem dL_law_1258 : decode cL_law 1258 = .ok (.iconst 0, 1) := by decide +kernel
theorem dL_law_1259 : decode cL_law 1259 = .ok (.ireturn, 1) := by decide +kernel
theorem dL_law_1260 : decode cL_law 1260 = .ok (.aload_n 1, 1) := by decide +kernel
theorem dL_law_1261 : decode cL_law 1261 = .ok (.aload_n 0, 1) := by decide +kernel
theorem dL_law_1262 : decode cL_law 1262 = .ok (.iload 4, 2) := by decide +kernel
theorem dL_law_1264 : decode cL_law 1264 = .ok (.iconst 1, 1) := by decide +kernel
theorem dL_law_1265 : decode cL_law 1265 = .ok (.iadd, 1) := by decide +kernel
theorem dL_law_1266 : decode cL_law 1266 = .ok (.iaload, 1) := by decide +kernel
theorem dL_law_1267 : decode cL_law 1267 = .ok (.invokevirtual 144, 3) := by decide +kernel
theorem dL_law_1270 : decode cL_law 1270 = .ok (.aload_n 2, 1) := by decide +kernel
theorem dL_law_1271 : decode cL_law 1271 = .ok (.aload_n 0, 1) := by decide +kernel
theorem dL_law_1272 : decode cL_law 1272 = .ok (.iload 4, 2) := by decide +kernel
theorem dL_law_1274 : decode cL_law 1274 = .ok (.iconst 1, 1) := by decide +kernel
theorem dL_law_1275 : decode cL_law 1275 = .ok (.iadd, 1) := by decide +kernel
theorem dL_law_1276 : decode cL_law 1276 = .ok (.iaload, 1) := by decide +kernel
theorem dL_law_1277 : decode cL_law 1277 = .ok (.invokevirtual 147, 3) := by decide +kernel
theorem dL_law_1280 : decode cL_law 1280 = .ok (.if_icmp .eq 454, 3) := by decide +kernel
theorem dL_law_1283 : decode cL_law 1283 = .ok (.iconst 0, 1) := by decide +kernel
theorem dL_law_1284 : decode cL_law 1284 = .ok (.ireturn, 1) := by decide +kernel
theorem dL_law_1285 : decode cL_law 1285 = .ok (.aload_n 1, 1) := by decide +kernel
theorem dL_law_1286 : decode cL_law 1286 = .ok (.aload_n 0, 1) := by decide +kernel
theorem dL_law_1287 : decode cL_law 1287 = .ok (.iload 4, 2) := by decide +kernel
theorem dL_law_1289 : decode cL_law 1289 = .ok (.iconst 1, 1) := by decide +kernel
theorem dL_law_1290 : decode cL_law 1290 = .ok (.iadd, 1) := by decide +kernel
theorem dL_law_1291 : decode cL_law 1291 = .ok (.iaload, 1) := by decide +kernel
theorem dL_law_1292 : decode cL_law 1292 = .ok (.aload_n 0, 1) := by decide +kernel
theorem dL_law_1293 : decode cL_law 1293 = .ok (.iload 4, 2) := by decide +kernel
theorem dL_law_1295 : decode cL_law 1295 = .ok (.iconst 2, 1) := by decide +kernel
theorem dL_law_1296 : decode cL_law 1296 = .ok (.iadd, 1) := by decide +kernel
theorem dL_law_1297 : decode cL_law 1297 = .ok (.iaload, 1) := by decide +kernel
theorem dL_law_1298 : decode cL_law 1298 = .ok (.aload_n 0, 1) := by decide +kernel
theorem dL_law_1299 : decode cL_law 1299 = .ok (.iload 4, 2) := by decide +kernel
theorem dL_law_1301 : decode cL_law 1301 = .ok (.iconst 3, 1) := by decide +kernel
theorem dL_law_1302 : decode cL_law 1302 = .ok (.iadd, 1) := by decide +kernel
theorem dL_law_1303 : decode cL_law 1303 = .ok (.iaload, 1) := by decide +kernel
theorem dL_law_1304 : decode cL_law 1304 = .ok (.invokevirtual 148, 3) := by decide +kernel
theorem dL_law_1307 : decode cL_law 1307 = .ok (.aload_n 2, 1) := by decide +kernel
theorem dL_law_1308 : decode cL_law 1308 = .ok (.aload_n 0, 1) := by decide +kernel
theorem dL_law_1309 : decode cL_law 1309 = .ok (.iload 4, 2) := by decide +kernel
theorem dL_law_1311 : decode cL_law 1311 = .ok (.iconst 1, 1) := by decide +kernel
theorem dL_law_1312 : decode cL_law 1312 = .ok (.iadd, 1) := by decide +kernel
theorem dL_law_1313 : decode cL_law 1313 = .ok (.iaload, 1) := by decide +kernel
theorem dL_law_1314 : decode cL_law 1314 = .ok (.aload_n 0, 1) := by decide +kernel
theorem dL_law_1315 : decode cL_law 1315 = .ok (.iload 4, 2) := by decide +kernel
theorem dL_law_1317 : decode cL_law 1317 = .ok (.iconst 2, 1) := by decide +kernel
theorem dL_law_1318 : decode cL_law 1318 = .ok (.iadd, 1) := by decide +kernel
theorem dL_law_1319 : decode cL_law 1319 = .ok (.iaload, 1) := by decide +kernel
theorem dL_law_1320 : decode cL_law 1320 = .ok (.aload_n 0, 1) := by decide +kernel
theorem dL_law_1321 : decode cL_law 1321 = .ok (.iload 4, 2) := by decide +kernel
theorem dL_law_1323 : decode cL_law 1323 = .ok (.iconst 3, 1) := by decide +kernel
theorem dL_law_1324 : decode cL_law 1324 = .ok (.iadd, 1) := by decide +kernel
theorem dL_law_1325 : decode cL_law 1325 = .ok (.iaload, 1) := by decide +kernel
theorem dL_law_1326 : decode cL_law 1326 = .ok (.invokevirtual 151, 3) := by decide +kernel
theorem dL_law_1329 : decode cL_law 1329 = .ok (.if_icmp .eq 405, 3) := by decide +kernel
theorem dL_law_1332 : decode cL_law 1332 = .ok (.iconst 0, 1) := by decide +kernel
theorem dL_law_1333 : decode cL_law 1333 = .ok (.ireturn, 1) := by decide +kernel
theorem dL_law_1334 : decode cL_law 1334 = .ok (.aload_n 1, 1) := by decide +kernel
theorem dL_law_1335 : decode cL_law 1335 = .ok (.invokevirtual 152, 3) := by decide +kernel
theorem dL_law_1338 : decode cL_law 1338 = .ok (.aload_n 2, 1) := by decide +kernel
theorem dL_law_1339 : decode cL_law 1339 = .ok (.invokevirtual 155, 3) := by decide +kernel
theorem dL_law_1342 : decode cL_law 1342 = .ok (.if_icmp .eq 392, 3) := by decide +kernel
theorem dL_law_1345 : decode cL_law 1345 = .ok (.iconst 0, 1) := by decide +kernel
theorem dL_law_1346 : decode cL_law 1346 = .ok (.ireturn, 1) := by decide +kernel
theorem dL_law_1347 : decode cL_law 1347 = .ok (.aload_n 1, 1) := by decide +kernel
theorem dL_law_1348 : decode cL_law 1348 = .ok (.invokevirtual 156, 3) := by decide +kernel
theorem dL_law_1351 : decode cL_law 1351 = .ok (.aload_n 2, 1) := by decide +kernel
theorem dL_law_1352 : decode cL_law 1352 = .ok (.invokevirtual 159, 3) := by decide +kernel
theorem dL_law_1355 : decode cL_law 1355 = .ok (.if_icmp .eq 379, 3) := by decide +kernel
theorem dL_law_1358 : decode cL_law 1358 = .ok (.iconst 0, 1) := by decide +kernel
theorem dL_law_1359 : decode cL_law 1359 = .ok (.ireturn, 1) := by decide +kernel
theorem dL_law_1360 : decode cL_law 1360 = .ok (.aload_n 1, 1) := by decide +kernel
theorem dL_law_1361 : decode cL_law 1361 = .ok (.aload_n 0, 1) := by decide +kernel
theorem dL_law_1362 : decode cL_law 1362 = .ok (.iload 4, 2) := by decide +kernel
theorem dL_law_1364 : decode cL_law 1364 = .ok (.iconst 1, 1) := by decide +kernel
theorem dL_law_1365 : decode cL_law 1365 = .ok (.iadd, 1) := by decide +kernel
theorem dL_law_1366 : decode cL_law 1366 = .ok (.iaload, 1) := by decide +kernel
theorem dL_law_1367 : decode cL_law 1367 = .ok (.invokevirtual 160, 3) := by decide +kernel
theorem dL_law_1370 : decode cL_law 1370 = .ok (.aload_n 2, 1) := by decide +kernel
theorem dL_law_1371 : decode cL_law 1371 = .ok (.aload_n 0, 1) := by decide +kernel
theorem dL_law_1372 : decode cL_law 1372 = .ok (.iload 4, 2) := by decide +kernel
theorem dL_law_1374 : decode cL_law 1374 = .ok (.iconst 1, 1) := by decide +kernel
theorem dL_law_1375 : decode cL_law 1375 = .ok (.iadd, 1) := by decide +kernel
theorem dL_law_1376 : decode cL_law 1376 = .ok (.iaload, 1) := by decide +kernel
theorem dL_law_1377 : decode cL_law 1377 = .ok (.invokevirtual 163, 3) := by decide +kernel
theorem dL_law_1380 : decode cL_law 1380 = .ok (.if_icmp .eq 354, 3) := by decide +kernel
theorem dL_law_1383 : decode cL_law 1383 = .ok (.iconst 0, 1) := by decide +kernel
theorem dL_law_1384 : decode cL_law 1384 = .ok (.ireturn, 1) := by decide +kernel
theorem dL_law_1385 : decode cL_law 1385 = .ok (.aload_n 1, 1) := by decide +kernel
theorem dL_law_1386 : decode cL_law 1386 = .ok (.aload_n 0, 1) := by decide +kernel
theorem dL_law_1387 : decode cL_law 1387 = .ok (.iload 4, 2) := by decide +kernel
theorem dL_law_1389 : decode cL_law 1389 = .ok (.iconst 1, 1) := by decide +kernel
theorem dL_law_1390 : decode cL_law 1390 = .ok (.iadd, 1) := by decide +kernel
theorem dL_law_1391 : decode cL_law 1391 = .ok (.iaload, 1) := by decide +kernel
theorem dL_law_1392 : decode cL_law 1392 = .ok (.aload_n 0, 1) := by decide +kernel
theorem dL_law_1393 : decode cL_law 1393 = .ok (.iload 4, 2) := by decide +kernel
theorem dL_law_1395 : decode cL_law 1395 = .ok (.iconst 2, 1) := by decide +kernel
theorem dL_law_1396 : decode cL_law 1396 = .ok (.iadd, 1) := by decide +kernel
theorem dL_law_1397 : decode cL_law 1397 = .ok (.iaload, 1) := by decide +kernel
theorem dL_law_1398 : decode cL_law 1398 = .ok (.aload_n 0, 1) := by decide +kernel
theorem dL_law_1399 : decode cL_law 1399 = .ok (.iload 4, 2) := by decide +kernel
theorem dL_law_1401 : decode cL_law 1401 = .ok (.iconst 3, 1) := by decide +kernel
theorem dL_law_1402 : decode cL_law 1402 = .ok (.iadd, 1) := by decide +kernel
theorem dL_law_1403 : decode cL_law 1403 = .ok (.iaload, 1) := by decide +kernel
theorem dL_law_1404 : decode cL_law 1404 = .ok (.aload_n 0, 1) := by decide +kernel
theorem dL_law_1405 : decode cL_law 1405 = .ok (.iload 4, 2) := by decide +kernel
theorem dL_law_1407 : decode cL_law 1407 = .ok (.iconst 4, 1) := by decide +kernel
theorem dL_law_1408 : decode cL_law 1408 = .ok (.iadd, 1) := by decide +kernel
theorem dL_law_1409 : decode cL_law 1409 = .ok (.iaload, 1) := by decide +kernel
theorem dL_law_1410 : decode cL_law 1410 = .ok (.invokevirtual 164, 3) := by decide +kernel
theorem dL_law_1413 : decode cL_law 1413 = .ok (.aload_n 2, 1) := by decide +kernel
theorem dL_law_1414 : decode cL_law 1414 = .ok (.aload_n 0, 1) := by decide +kernel
theorem dL_law_1415 : decode cL_law 1415 = .ok (.iload 4, 2) := by decide +kernel
theorem dL_law_1417 : decode cL_law 1417 = .ok (.iconst 1, 1) := by decide +kernel
theorem dL_law_1418 : decode cL_law 1418 = .ok (.iadd, 1) := by decide +kernel
theorem dL_law_1419 : decode cL_law 1419 = .ok (.iaload, 1) := by decide +kernel
theorem dL_law_1420 : decode cL_law 1420 = .ok (.aload_n 0, 1) := by decide +kernel
theorem dL_law_1421 : decode cL_law 1421 = .ok (.iload 4, 2) := by decide +kernel
theorem dL_law_1423 : decode cL_law 1423 = .ok (.iconst 2, 1) := by decide +kernel
theorem dL_law_1424 : decode cL_law 1424 = .ok (.iadd, 1) := by decide +kernel
theorem dL_law_1425 : decode cL_law 1425 = .ok (.iaload, 1) := by decide +kernel
theorem dL_law_1426 : decode cL_law 1426 = .ok (.aload_n 0, 1) := by decide +kernel
theorem dL_law_1427 : decode cL_law 1427 = .ok (.iload 4, 2) := by decide +kernel
theorem dL_law_1429 : decode cL_law 1429 = .ok (.iconst 3, 1) := by decide +kernel
theorem dL_law_1430 : decode cL_law 1430 = .ok (.iadd, 1) := by decide +kernel
theorem dL_law_1431 : decode cL_law 1431 = .ok (.iaload, 1) := by decide +kernel
theorem dL_law_1432 : decode cL_law 1432 = .ok (.aload_n 0, 1) := by decide +kernel
theorem dL_law_1433 : decode cL_law 1433 = .ok (.iload 4, 2) := by decide +kernel
theorem dL_law_1435 : decode cL_law 1435 = .ok (.iconst 4, 1) := by decide +kernel
theorem dL_law_1436 : decode cL_law 1436 = .ok (.iadd, 1) := by decide +kernel
theorem dL_law_1437 : decode cL_law 1437 = .ok (.iaload, 1) := by decide +kernel
theorem dL_law_1438 : decode cL_law 1438 = .ok (.invokevirtual 167, 3) := by decide +kernel
theorem dL_law_1441 : decode cL_law 1441 = .ok (.if_icmp .eq 293, 3) := by decide +kernel
theorem dL_law_1444 : decode cL_law 1444 = .ok (.iconst 0, 1) := by decide +kernel
theorem dL_law_1445 : decode cL_law 1445 = .ok (.ireturn, 1) := by decide +kernel
theorem dL_law_1446 : decode cL_law 1446 = .ok (.aload_n 1, 1) := by decide +kernel
theorem dL_law_1447 : decode cL_law 1447 = .ok (.aload_n 0, 1) := by decide +kernel
theorem dL_law_1448 : decode cL_law 1448 = .ok (.iload 4, 2) := by decide +kernel
theorem dL_law_1450 : decode cL_law 1450 = .ok (.iconst 1, 1) := by decide +kernel
theorem dL_law_1451 : decode cL_law 1451 = .ok (.iadd, 1) := by decide +kernel
theorem dL_law_1452 : decode cL_law 1452 = .ok (.iaload, 1) := by decide +kernel
theorem dL_law_1453 : decode cL_law 1453 = .ok (.aload_n 0, 1) := by decide +kernel
theorem dL_law_1454 : decode cL_law 1454 = .ok (.iload 4, 2) := by decide +kernel
theorem dL_law_1456 : decode cL_law 1456 = .ok (.iconst 2, 1) := by decide +kernel
theorem dL_law_1457 : decode cL_law 1457 = .ok (.iadd, 1) := by decide +kernel
theorem dL_law_1458 : decode cL_law 1458 = .ok (.iaload, 1) := by decide +kernel
theorem dL_law_1459 : decode cL_law 1459 = .ok (.aload_n 0, 1) := by decide +kernel
theorem dL_law_1460 : decode cL_law 1460 = .ok (.iload 4, 2) := by decide +kernel
theorem dL_law_1462 : decode cL_law 1462 = .ok (.iconst 3, 1) := by decide +kernel
theorem dL_law_1463 : decode cL_law 1463 = .ok (.iadd, 1) := by decide +kernel
theorem dL_law_1464 : decode cL_law 1464 = .ok (.iaload, 1) := by decide +kernel
theorem dL_law_1465 : decode cL_law 1465 = .ok (.invokevirtual 168, 3) := by decide +kernel
theorem dL_law_1468 : decode cL_law 1468 = .ok (.aload_n 2, 1) := by decide +kernel
theorem dL_law_1469 : decode cL_law 1469 = .ok (.aload_n 0, 1) := by decide +kernel
theorem dL_law_1470 : decode cL_law 1470 = .ok (.iload 4, 2) := by decide +kernel
theorem dL_law_1472 : decode cL_law 1472 = .ok (.iconst 1, 1) := by decide +kernel
theorem dL_law_1473 : decode cL_law 1473 = .ok (.iadd, 1) := by decide +kernel
theorem dL_law_1474 : decode cL_law 1474 = .ok (.iaload, 1) := by decide +kernel
theorem dL_law_1475 : decode cL_law 1475 = .ok (.aload_n 0, 1) := by decide +kernel
theorem dL_law_1476 : decode cL_law 1476 = .ok (.iload 4, 2) := by decide +kernel
theorem dL_law_1478 : decode cL_law 1478 = .ok (.iconst 2, 1) := by decide +kernel
theorem dL_law_1479 : decode cL_law 1479 = .ok (.iadd, 1) := by decide +kernel
theorem dL_law_1480 : decode cL_law 1480 = .ok (.iaload, 1) := by decide +kernel
theorem dL_law_1481 : decode cL_law 1481 = .ok (.aload_n 0, 1) := by decide +kernel
theorem dL_law_1482 : decode cL_law 1482 = .ok (.iload 4, 2) := by decide +kernel
theorem dL_law_1484 : decode cL_law 1484 = .ok (.iconst 3, 1) := by decide +kernel
theorem dL_law_1485 : decode cL_law 1485 = .ok (.iadd, 1) := by decide +kernel
theorem dL_law_1486 : decode cL_law 1486 = .ok (.iaload, 1) := by decide +kernel
theorem dL_law_1487 : decode cL_law 1487 = .ok (.invokevirtual 171, 3) := by decide +kernel
theorem dL_law_1490 : decode cL_law 1490 = .ok (.if_icmp .eq 244, 3) := by decide +kernel
theorem dL_law_1493 : decode cL_law 1493 = .ok (.iconst 0, 1) := by decide +kernel
theorem dL_law_1494 : decode cL_law 1494 = .ok (.ireturn, 1) := by decide +kernel
theorem dL_law_1495 : decode cL_law 1495 = .ok (.aload_n 1, 1) := by decide +kernel
theorem dL_law_1496 : decode cL_law 1496 = .ok (.aload_n 0, 1) := by decide +kernel
theorem dL_law_1497 : decode cL_law 1497 = .ok (.iload 4, 2) := by decide +kernel
theorem dL_law_1499 : decode cL_law 1499 = .ok (.iconst 1, 1) := by decide +kernel
theorem dL_law_1500 : decode cL_law 1500 = .ok (.iadd, 1) := by decide +kernel
theorem dL_law_1501 : decode cL_law 1501 = .ok (.iaload, 1) := by decide +kernel
theorem dL_law_1502 : decode cL_law 1502 = .ok (.aload_n 0, 1) := by decide +kernel
theorem dL_law_1503 : decode cL_law 1503 = .ok (.iload 4, 2) := by decide +kernel
theorem dL_law_1505 : decode cL_law 1505 = .ok (.iconst 2, 1) := by decide +kernel
theorem dL_law_1506 : decode cL_law 1506 = .ok (.iadd, 1) := by decide +kernel
theorem dL_law_1507 : decode cL_law 1507 = .ok (.iaload, 1) := by decide +kernel
theorem dL_law_1508 : decode cL_law 1508 = .ok (.aload_n 0, 1) := by decide +kernel
theorem dL_law_1509 : decode cL_law 1509 = .ok (.iload 4, 2) := by decide +kernel
theorem dL_law_1511 : decode cL_law 1511 = .ok (.iconst 3, 1) := by decide +kernel
theorem dL_law_1512 : decode cL_law 1512 = .ok (.iadd, 1) := by decide +kernel
theorem dL_law_1513 : decode cL_law 1513 = .ok (.iaload, 1) := by decide +kernel
theorem dL_law_1514 : decode cL_law 1514 = .ok (.invokevirtual 172, 3) := by decide +kernel
theorem dL_law_1517 : decode cL_law 1517 = .ok (.aload_n 2, 1) := by decide +kernel
theorem dL_law_1518 : decode cL_law 1518 = .ok (.aload_n 0, 1) := by decide +kernel
theorem dL_law_1519 : decode cL_law 1519 = .ok (.iload 4, 2) := by decide +kernel
theorem dL_law_1521 : decode cL_law 1521 = .ok (.iconst 1, 1) := by decide +kernel
theorem dL_law_1522 : decode cL_law 1522 = .ok (.iadd, 1) := by decide +kernel
theorem dL_law_1523 : decode cL_law 1523 = .ok (.iaload, 1) := by decide +kernel
theorem dL_law_1524 : decode cL_law 1524 = .ok (.aload_n 0, 1) := by decide +kernel
theorem dL_law_1525 : decode cL_law 1525 = .ok (.iload 4, 2) := by decide +kernel
theorem dL_law_1527 : decode cL_law 1527 = .ok (.iconst 2, 1) := by decide +kernel
theorem dL_law_1528 : decode cL_law 1528 = .ok (.iadd, 1) := by decide +kernel
theorem dL_law_1529 : decode cL_law 1529 = .ok (.iaload, 1) := by decide +kernel
theorem dL_law_1530 : decode cL_law 1530 = .ok (.aload_n 0, 1) := by decide +kernel
theorem dL_law_1531 : decode cL_law 1531 = .ok (.iload 4, 2) := by decide +kernel
theorem dL_law_1533 : decode cL_law 1533 = .ok (.iconst 3, 1) := by decide +kernel
theorem dL_law_1534 : decode cL_law 1534 = .ok (.iadd, 1) := by decide +kernel
theorem dL_law_1535 : decode cL_law 1535 = .ok (.iaload, 1) := by decide +kernel
theorem dL_law_1536 : decode cL_law 1536 = .ok (.invokevirtual 175, 3) := by decide +kernel
theorem dL_law_1539 : decode cL_law 1539 = .ok (.if_icmp .eq 195, 3) := by decide +kernel
theorem dL_law_1542 : decode cL_law 1542 = .ok (.iconst 0, 1) := by decide +kernel
theorem dL_law_1543 : decode cL_law 1543 = .ok (.ireturn, 1) := by decide +kernel
theorem dL_law_1544 : decode cL_law 1544 = .ok (.aload_n 1, 1) := by decide +kernel
theorem dL_law_1545 : decode cL_law 1545 = .ok (.aload_n 0, 1) := by decide +kernel
theorem dL_law_1546 : decode cL_law 1546 = .ok (.iload 4, 2) := by decide +kernel
theorem dL_law_1548 : decode cL_law 1548 = .ok (.iconst 1, 1) := by decide +kernel
theorem dL_law_1549 : decode cL_law 1549 = .ok (.iadd, 1) := by decide +kernel
theorem dL_law_1550 : decode cL_law 1550 = .ok (.iaload, 1) := by decide +kernel
theorem dL_law_1551 : decode cL_law 1551 = .ok (.aload_n 0, 1) := by decide +kernel
theorem dL_law_1552 : decode cL_law 1552 = .ok (.iload 4, 2) := by decide +kernel
theorem dL_law_1554 : decode cL_law 1554 = .ok (.iconst 2, 1) := by decide +kernel
theorem dL_law_1555 : decode cL_law 1555 = .ok (.iadd, 1) := by decide +kernel
theorem dL_law_1556 : decode cL_law 1556 = .ok (.iaload, 1) := by decide +kernel
theorem dL_law_1557 : decode cL_law 1557 = .ok (.aload_n 3, 1) := by decide +kernel
theorem dL_law_1558 : decode cL_law 1558 = .ok (.invokestatic 176, 3) := by decide +kernel
theorem dL_law_1561 : decode cL_law 1561 = .ok (.istore 5, 2) := by decide +kernel
theorem dL_law_1563 : decode cL_law 1563 = .ok (.aload_n 2, 1) := by decide +kernel
theorem dL_law_1564 : decode cL_law 1564 = .ok (.aload_n 0, 1) := by decide +kernel
theorem dL_law_1565 : decode cL_law 1565 = .ok (.iload 4, 2) := by decide +kernel
theorem dL_law_1567 : decode cL_law 1567 = .ok (.iconst 1, 1) := by decide +kernel
theorem dL_law_1568 : decode cL_law 1568 = .ok (.iadd, 1) := by decide +kernel
theorem dL_law_1569 : decode cL_law 1569 = .ok (.iaload, 1) := by decide +kernel
theorem dL_law_1570 : decode cL_law 1570 = .ok (.aload_n 0, 1) := by decide +kernel
theorem dL_law_1571 : decode cL_law 1571 = .ok (.iload 4, 2) := by decide +kernel
theorem dL_law_1573 : decode cL_law 1573 = .ok (.iconst 2, 1) := by decide +kernel
theorem dL_law_1574 : decode cL_law 1574 = .ok (.iadd, 1) := by decide +kernel
theorem dL_law_1575 : decode cL_law 1575 = .ok (.iaload, 1) := by decide +kernel
theorem dL_law_1576 : decode cL_law 1576 = .ok (.invokevirtual 181, 3) := by decide +kernel
theorem dL_law_1579 : decode cL_law 1579 = .ok (.lstore 6, 2) := by decide +kernel
theorem dL_law_1581 : decode cL_law 1581 = .ok (.aload_n 2, 1) := by decide +kernel
theorem dL_law_1582 : decode cL_law 1582 = .ok (.invokevirtual 182, 3) := by decide +kernel
theorem dL_law_1585 : decode cL_law 1585 = .ok (.iload 5, 2) := by decide +kernel
theorem dL_law_1587 : decode cL_law 1587 = .ok (.if_icmp .eq 5, 3) := by decide +kernel
theorem dL_law_1590 : decode cL_law 1590 = .ok (.iconst 0, 1) := by decide +kernel
theorem dL_law_1591 : decode cL_law 1591 = .ok (.ireturn, 1) := by decide +kernel
theorem dL_law_1592 : decode cL_law 1592 = .ok (.iload 5, 2) := by decide +kernel
theorem dL_law_1594 : decode cL_law 1594 = .ok (.ifCond .ne 14, 3) := by decide +kernel
theorem dL_law_1597 : decode cL_law 1597 = .ok (.aload_n 3, 1) := by decide +kernel
theorem dL_law_1598 : decode cL_law 1598 = .ok (.iconst 0, 1) := by decide +kernel
theorem dL_law_1599 : decode cL_law 1599 = .ok (.laload, 1) := by decide +kernel
theorem dL_law_1600 : decode cL_law 1600 = .ok (.lload 6, 2) := by decide +kernel
theorem dL_law_1602 : decode cL_law 1602 = .ok (.lcmp, 1) := by decide +kernel
theorem dL_law_1603 : decode cL_law 1603 = .ok (.ifCond .eq 5, 3) := by decide +kernel
theorem dL_law_1606 : decode cL_law 1606 = .ok (.iconst 0, 1) := by decide +kernel
theorem dL_law_1607 : decode cL_law 1607 = .ok (.ireturn, 1) := by decide +kernel
theorem dL_law_1608 : decode cL_law 1608 = .ok (.goto 126, 3) := by decide +kernel
theorem dL_law_1611 : decode cL_law 1611 = .ok (.aload_n 1, 1) := by decide +kernel
theorem dL_law_1612 : decode cL_law 1612 = .ok (.aload_n 0, 1) := by decide +kernel
theorem dL_law_1613 : decode cL_law 1613 = .ok (.iload 4, 2) := by decide +kernel
theorem dL_law_1615 : decode cL_law 1615 = .ok (.iconst 1, 1) := by decide +kernel
theorem dL_law_1616 : decode cL_law 1616 = .ok (.iadd, 1) := by decide +kernel
theorem dL_law_1617 : decode cL_law 1617 = .ok (.iaload, 1) := by decide +kernel
theorem dL_law_1618 : decode cL_law 1618 = .ok (.aload_n 0, 1) := by decide +kernel
theorem dL_law_1619 : decode cL_law 1619 = .ok (.iload 4, 2) := by decide +kernel
theorem dL_law_1621 : decode cL_law 1621 = .ok (.iconst 2, 1) := by decide +kernel
theorem dL_law_1622 : decode cL_law 1622 = .ok (.iadd, 1) := by decide +kernel
theorem dL_law_1623 : decode cL_law 1623 = .ok (.iaload, 1) := by decide +kernel
theorem dL_law_1624 : decode cL_law 1624 = .ok (.aload_n 0, 1) := by decide +kernel
theorem dL_law_1625 : decode cL_law 1625 = .ok (.iload 4, 2) := by decide +kernel
theorem dL_law_1627 : decode cL_law 1627 = .ok (.iconst 3, 1) := by decide +kernel
theorem dL_law_1628 : decode cL_law 1628 = .ok (.iadd, 1) := by decide +kernel
theorem dL_law_1629 : decode cL_law 1629 = .ok (.iaload, 1) := by decide +kernel
theorem dL_law_1630 : decode cL_law 1630 = .ok (.aload_n 0, 1) := by decide +kernel
theorem dL_law_1631 : decode cL_law 1631 = .ok (.iload 4, 2) := by decide +kernel
theorem dL_law_1633 : decode cL_law 1633 = .ok (.iconst 4, 1) := by decide +kernel
theorem dL_law_1634 : decode cL_law 1634 = .ok (.iadd, 1) := by decide +kernel
theorem dL_law_1635 : decode cL_law 1635 = .ok (.iaload, 1) := by decide +kernel
theorem dL_law_1636 : decode cL_law 1636 = .ok (.aload_n 0, 1) := by decide +kernel
theorem dL_law_1637 : decode cL_law 1637 = .ok (.iload 4, 2) := by decide +kernel
theorem dL_law_1639 : decode cL_law 1639 = .ok (.iconst 5, 1) := by decide +kernel
theorem dL_law_1640 : decode cL_law 1640 = .ok (.iadd, 1) := by decide +kernel
theorem dL_law_1641 : decode cL_law 1641 = .ok (.iaload, 1) := by decide +kernel
theorem dL_law_1642 : decode cL_law 1642 = .ok (.invokevirtual 185, 3) := by decide +kernel
theorem dL_law_1645 : decode cL_law 1645 = .ok (.aload_n 2, 1) := by decide +kernel
theorem dL_law_1646 : decode cL_law 1646 = .ok (.aload_n 0, 1) := by decide +kernel
theorem dL_law_1647 : decode cL_law 1647 = .ok (.iload 4, 2) := by decide +kernel
theorem dL_law_1649 : decode cL_law 1649 = .ok (.iconst 1, 1) := by decide +kernel
theorem dL_law_1650 : decode cL_law 1650 = .ok (.iadd, 1) := by decide +kernel
theorem dL_law_1651 : decode cL_law 1651 = .ok (.iaload, 1) := by decide +kernel
theorem dL_law_1652 : decode cL_law 1652 = .ok (.aload_n 0, 1) := by decide +kernel
theorem dL_law_1653 : decode cL_law 1653 = .ok (.iload 4, 2) := by decide +kernel
theorem dL_law_1655 : decode cL_law 1655 = .ok (.iconst 2, 1) := by decide +kernel
theorem dL_law_1656 : decode cL_law 1656 = .ok (.iadd, 1) := by decide +kernel
theorem dL_law_1657 : decode cL_law 1657 = .ok (.iaload, 1) := by decide +kernel
theorem dL_law_1658 : decode cL_law 1658 = .ok (.aload_n 0, 1) := by decide +kernel
theorem dL_law_1659 : decode cL_law 1659 = .ok (.iload 4, 2) := by decide +kernel
theorem dL_law_1661 : decode cL_law 1661 = .ok (.iconst 3, 1) := by decide +kernel
theorem dL_law_1662 : decode cL_law 1662 = .ok (.iadd, 1) := by decide +kernel
theorem dL_law_1663 : decode cL_law 1663 = .ok (.iaload, 1) := by decide +kernel
theorem dL_law_1664 : decode cL_law 1664 = .ok (.aload_n 0, 1) := by decide +kernel
theorem dL_law_1665 : decode cL_law 1665 = .ok (.iload 4, 2) := by decide +kernel
theorem dL_law_1667 : decode cL_law 1667 = .ok (.iconst 4, 1) := by decide +kernel
theorem dL_law_1668 : decode cL_law 1668 = .ok (.iadd, 1) := by decide +kernel
theorem dL_law_1669 : decode cL_law 1669 = .ok (.iaload, 1) := by decide +kernel
theorem dL_law_1670 : decode cL_law 1670 = .ok (.aload_n 0, 1) := by decide +kernel
theorem dL_law_1671 : decode cL_law 1671 = .ok (.iload 4, 2) := by decide +kernel
theorem dL_law_1673 : decode cL_law 1673 = .ok (.iconst 5, 1) := by decide +kernel
theorem dL_law_1674 : decode cL_law 1674 = .ok (.iadd, 1) := by decide +kernel
theorem dL_law_1675 : decode cL_law 1675 = .ok (.iaload, 1) := by decide +kernel
theorem dL_law_1676 : decode cL_law 1676 = .ok (.invokevirtual 189, 3) := by decide +kernel
theorem dL_law_1679 : decode cL_law 1679 = .ok (.if_icmp .eq 55, 3) := by decide +kernel
theorem dL_law_1682 : decode cL_law 1682 = .ok (.iconst 0, 1) := by decide +kernel
theorem dL_law_1683 : decode cL_law 1683 = .ok (.ireturn, 1) := by decide +kernel
theorem dL_law_1684 : decode cL_law 1684 = .ok (.aload_n 1, 1) := by decide +kernel
theorem dL_law_1685 : decode cL_law 1685 = .ok (.aload_n 0, 1) := by decide +kernel
theorem dL_law_1686 : decode cL_law 1686 = .ok (.iload 4, 2) := by decide +kernel
theorem dL_law_1688 : decode cL_law 1688 = .ok (.iconst 1, 1) := by decide +kernel
theorem dL_law_1689 : decode cL_law 1689 = .ok (.iadd, 1) := by decide +kernel
theorem dL_law_1690 : decode cL_law 1690 = .ok (.iaload, 1) := by decide +kernel
theorem dL_law_1691 : decode cL_law 1691 = .ok (.invokevirtual 190, 3) := by decide +kernel
theorem dL_law_1694 : decode cL_law 1694 = .ok (.aload_n 2, 1) := by decide +kernel
theorem dL_law_1695 : decode cL_law 1695 = .ok (.aload_n 0, 1) := by decide +kernel
theorem dL_law_1696 : decode cL_law 1696 = .ok (.iload 4, 2) := by decide +kernel
theorem dL_law_1698 : decode cL_law 1698 = .ok (.iconst 1, 1) := by decide +kernel
theorem dL_law_1699 : decode cL_law 1699 = .ok (.iadd, 1) := by decide +kernel
theorem dL_law_1700 : decode cL_law 1700 = .ok (.iaload, 1) := by decide +kernel
theorem dL_law_1701 : decode cL_law 1701 = .ok (.invokevirtual 193, 3) := by decide +kernel
theorem dL_law_1704 : decode cL_law 1704 = .ok (.if_icmp .eq 30, 3) := by decide +kernel
theorem dL_law_1707 : decode cL_law 1707 = .ok (.iconst 0, 1) := by decide +kernel
theorem dL_law_1708 : decode cL_law 1708 = .ok (.ireturn, 1) := by decide +kernel
theorem dL_law_1709 : decode cL_law 1709 = .ok (.aload_n 1, 1) := by decide +kernel
theorem dL_law_1710 : decode cL_law 1710 = .ok (.aload_n 0, 1) := by decide +kernel
theorem dL_law_1711 : decode cL_law 1711 = .ok (.iload 4, 2) := by decide +kernel
theorem dL_law_1713 : decode cL_law 1713 = .ok (.iconst 1, 1) := by decide +kernel
theorem dL_law_1714 : decode cL_law 1714 = .ok (.iadd, 1) := by decide +kernel
theorem dL_law_1715 : decode cL_law 1715 = .ok (.iaload, 1) := by decide +kernel
theorem dL_law_1716 : decode cL_law 1716 = .ok (.invokevirtual 194, 3) := by decide +kernel
theorem dL_law_1719 : decode cL_law 1719 = .ok (.aload_n 2, 1) := by decide +kernel
theorem dL_law_1720 : decode cL_law 1720 = .ok (.aload_n 0, 1) := by decide +kernel
theorem dL_law_1721 : decode cL_law 1721 = .ok (.iload 4, 2) := by decide +kernel
theorem dL_law_1723 : decode cL_law 1723 = .ok (.iconst 1, 1) := by decide +kernel
theorem dL_law_1724 : decode cL_law 1724 = .ok (.iadd, 1) := by decide +kernel
theorem dL_law_1725 : decode cL_law 1725 = .ok (.iaload, 1) := by decide +kernel
theorem dL_law_1726 : decode cL_law 1726 = .ok (.invokevirtual 197, 3) := by decide +kernel
theorem dL_law_1729 : decode cL_law 1729 = .ok (.if_icmp .eq 5, 3) := by decide +kernel
theorem dL_law_1732 : decode cL_law 1732 = .ok (.iconst 0, 1) := by decide +kernel
theorem dL_law_1733 : decode cL_law 1733 = .ok (.ireturn, 1) := by decide +kernel
theorem dL_law_1734 : decode cL_law 1734 = .ok (.iinc 4 6, 3) := by decide +kernel
theorem dL_law_1737 : decode cL_law 1737 = .ok (.goto (-1714), 3) := by decide +kernel
theorem dL_law_1740 : decode cL_law 1740 = .ok (.iconst 1, 1) := by decide +kernel
theorem dL_law_1741 : decode cL_law 1741 = .ok (.ireturn, 1) := by decide +kernel
