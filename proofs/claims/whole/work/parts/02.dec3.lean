theorem dX10_readDigits_94 : decode cX10_readDigits 94 = .ok (.ireturn, 1) := by decide +kernel
theorem dX10_isLetter_0 : decode cX10_isLetter 0 = .ok (.iload_n 0, 1) := by decide +kernel
theorem dX10_isLetter_1 : decode cX10_isLetter 1 = .ok (.bipush 98, 2) := by decide +kernel
theorem dX10_isLetter_3 : decode cX10_isLetter 3 = .ok (.if_icmp .eq 39, 3) := by decide +kernel
theorem dX10_isLetter_6 : decode cX10_isLetter 6 = .ok (.iload_n 0, 1) := by decide +kernel
theorem dX10_isLetter_7 : decode cX10_isLetter 7 = .ok (.bipush 119, 2) := by decide +kernel
theorem dX10_isLetter_9 : decode cX10_isLetter 9 = .ok (.if_icmp .eq 33, 3) := by decide +kernel
theorem dX10_isLetter_12 : decode cX10_isLetter 12 = .ok (.iload_n 0, 1) := by decide +kernel
theorem dX10_isLetter_13 : decode cX10_isLetter 13 = .ok (.bipush 111, 2) := by decide +kernel
theorem dX10_isLetter_15 : decode cX10_isLetter 15 = .ok (.if_icmp .eq 27, 3) := by decide +kernel
theorem dX10_isLetter_18 : decode cX10_isLetter 18 = .ok (.iload_n 0, 1) := by decide +kernel
theorem dX10_isLetter_19 : decode cX10_isLetter 19 = .ok (.bipush 115, 2) := by decide +kernel
theorem dX10_isLetter_21 : decode cX10_isLetter 21 = .ok (.if_icmp .eq 21, 3) := by decide +kernel
theorem dX10_isLetter_24 : decode cX10_isLetter 24 = .ok (.iload_n 0, 1) := by decide +kernel
theorem dX10_isLetter_25 : decode cX10_isLetter 25 = .ok (.bipush 116, 2) := by decide +kernel
theorem dX10_isLetter_27 : decode cX10_isLetter 27 = .ok (.if_icmp .eq 15, 3) := by decide +kernel
theorem dX10_isLetter_30 : decode cX10_isLetter 30 = .ok (.iload_n 0, 1) := by decide +kernel
theorem dX10_isLetter_31 : decode cX10_isLetter 31 = .ok (.bipush 117, 2) := by decide +kernel
theorem dX10_isLetter_33 : decode cX10_isLetter 33 = .ok (.if_icmp .eq 9, 3) := by decide +kernel
theorem dX10_isLetter_36 : decode cX10_isLetter 36 = .ok (.iload_n 0, 1) := by decide +kernel
theorem dX10_isLetter_37 : decode cX10_isLetter 37 = .ok (.bipush 104, 2) := by decide +kernel
theorem dX10_isLetter_39 : decode cX10_isLetter 39 = .ok (.if_icmp .ne 7, 3) := by decide +kernel
theorem dX10_isLetter_42 : decode cX10_isLetter 42 = .ok (.iconst 1, 1) := by decide +kernel
theorem dX10_isLetter_43 : decode cX10_isLetter 43 = .ok (.goto 4, 3) := by decide +kernel
theorem dX10_isLetter_46 : decode cX10_isLetter 46 = .ok (.iconst 0, 1) := by decide +kernel
theorem dX10_isLetter_47 : decode cX10_isLetter 47 = .ok (.ireturn, 1) := by decide +kernel
theorem dX10_readNumbers_0 : decode cX10_readNumbers 0 = .ok (.aload_n 0, 1) := by decide +kernel
theorem dX10_readNumbers_1 : decode cX10_readNumbers 1 = .ok (.getfield 51, 3) := by decide +kernel
theorem dX10_readNumbers_4 : decode cX10_readNumbers 4 = .ok (.iload_n 2, 1) := by decide +kernel
theorem dX10_readNumbers_5 : decode cX10_readNumbers 5 = .ok (.aload_n 0, 1) := by decide +kernel
theorem dX10_readNumbers_6 : decode cX10_readNumbers 6 = .ok (.iload_n 1, 1) := by decide +kernel
theorem dX10_readNumbers_7 : decode cX10_readNumbers 7 = .ok (.bipush 104, 2) := by decide +kernel
theorem dX10_readNumbers_9 : decode cX10_readNumbers 9 = .ok (.if_icmp .ne 7, 3) := by decide +kernel
theorem dX10_readNumbers_12 : decode cX10_readNumbers 12 = .ok (.iconst 2, 1) := by decide +kernel
theorem dX10_readNumbers_13 : decode cX10_readNumbers 13 = .ok (.goto 4, 3) := by decide +kernel
theorem dX10_readNumbers_16 : decode cX10_readNumbers 16 = .ok (.iconst 1, 1) := by decide +kernel
theorem dX10_readNumbers_17 : decode cX10_readNumbers 17 = .ok (.invokevirtual 180, 3) := by decide +kernel
theorem dX10_readNumbers_20 : decode cX10_readNumbers 20 = .ok (.iastore, 1) := by decide +kernel
theorem dX10_readNumbers_21 : decode cX10_readNumbers 21 = .ok (.iload_n 1, 1) := by decide +kernel
theorem dX10_readNumbers_22 : decode cX10_readNumbers 22 = .ok (.bipush 98, 2) := by decide +kernel
theorem dX10_readNumbers_24 : decode cX10_readNumbers 24 = .ok (.if_icmp .eq 9, 3) := by decide +kernel
theorem dX10_readNumbers_27 : decode cX10_readNumbers 27 = .ok (.iload_n 1, 1) := by decide +kernel
theorem dX10_readNumbers_28 : decode cX10_readNumbers 28 = .ok (.bipush 117, 2) := by decide +kernel
theorem dX10_readNumbers_30 : decode cX10_readNumbers 30 = .ok (.if_icmp .ne 16, 3) := by decide +kernel
theorem dX10_readNumbers_33 : decode cX10_readNumbers 33 = .ok (.aload_n 0, 1) := by decide +kernel
theorem dX10_readNumbers_34 : decode cX10_readNumbers 34 = .ok (.getfield 51, 3) := by decide +kernel
theorem dX10_readNumbers_37 : decode cX10_readNumbers 37 = .ok (.iload_n 2, 1) := by decide +kernel
theorem dX10_readNumbers_38 : decode cX10_readNumbers 38 = .ok (.iconst 1, 1) := by decide +kernel
theorem dX10_readNumbers_39 : decode cX10_readNumbers 39 = .ok (.iadd, 1) := by decide +kernel
theorem dX10_readNumbers_40 : decode cX10_readNumbers 40 = .ok (.aload_n 0, 1) := by decide +kernel
theorem dX10_readNumbers_41 : decode cX10_readNumbers 41 = .ok (.iconst 1, 1) := by decide +kernel
theorem dX10_readNumbers_42 : decode cX10_readNumbers 42 = .ok (.invokevirtual 180, 3) := by decide +kernel
theorem dX10_readNumbers_45 : decode cX10_readNumbers 45 = .ok (.iastore, 1) := by decide +kernel
theorem dX10_readNumbers_46 : decode cX10_readNumbers 46 = .ok (.iload_n 1, 1) := by decide +kernel
theorem dX10_readNumbers_47 : decode cX10_readNumbers 47 = .ok (.bipush 119, 2) := by decide +kernel
theorem dX10_readNumbers_49 : decode cX10_readNumbers 49 = .ok (.if_icmp .ne 16, 3) := by decide +kernel
theorem dX10_readNumbers_52 : decode cX10_readNumbers 52 = .ok (.aload_n 0, 1) := by decide +kernel
theorem dX10_readNumbers_53 : decode cX10_readNumbers 53 = .ok (.getfield 51, 3) := by decide +kernel
theorem dX10_readNumbers_56 : decode cX10_readNumbers 56 = .ok (.iload_n 2, 1) := by decide +kernel
theorem dX10_readNumbers_57 : decode cX10_readNumbers 57 = .ok (.iconst 1, 1) := by decide +kernel
theorem dX10_readNumbers_58 : decode cX10_readNumbers 58 = .ok (.iadd, 1) := by decide +kernel
theorem dX10_readNumbers_59 : decode cX10_readNumbers 59 = .ok (.aload_n 0, 1) := by decide +kernel
theorem dX10_readNumbers_60 : decode cX10_readNumbers 60 = .ok (.iconst 3, 1) := by decide +kernel
theorem dX10_readNumbers_61 : decode cX10_readNumbers 61 = .ok (.invokevirtual 180, 3) := by decide +kernel
theorem dX10_readNumbers_64 : decode cX10_readNumbers 64 = .ok (.iastore, 1) := by decide +kernel
theorem dX10_readNumbers_65 : decode cX10_readNumbers 65 = .ok (.iload_n 1, 1) := by decide +kernel
theorem dX10_readNumbers_66 : decode cX10_readNumbers 66 = .ok (.bipush 117, 2) := by decide +kernel
theorem dX10_readNumbers_68 : decode cX10_readNumbers 68 = .ok (.if_icmp .ne 16, 3) := by decide +kernel
theorem dX10_readNumbers_71 : decode cX10_readNumbers 71 = .ok (.aload_n 0, 1) := by decide +kernel
theorem dX10_readNumbers_72 : decode cX10_readNumbers 72 = .ok (.getfield 51, 3) := by decide +kernel
theorem dX10_readNumbers_75 : decode cX10_readNumbers 75 = .ok (.iload_n 2, 1) := by decide +kernel
theorem dX10_readNumbers_76 : decode cX10_readNumbers 76 = .ok (.iconst 2, 1) := by decide +kernel
theorem dX10_readNumbers_77 : decode cX10_readNumbers 77 = .ok (.iadd, 1) := by decide +kernel
theorem dX10_readNumbers_78 : decode cX10_readNumbers 78 = .ok (.aload_n 0, 1) := by decide +kernel
theorem dX10_readNumbers_79 : decode cX10_readNumbers 79 = .ok (.iconst 1, 1) := by decide +kernel
theorem dX10_readNumbers_80 : decode cX10_readNumbers 80 = .ok (.invokevirtual 180, 3) := by decide +kernel
theorem dX10_readNumbers_83 : decode cX10_readNumbers 83 = .ok (.iastore, 1) := by decide +kernel
theorem dX10_readNumbers_84 : decode cX10_readNumbers 84 = .ok (.return_, 1) := by decide +kernel
theorem dX10_readStatement_0 : decode cX10_readStatement 0 = .ok (.aload_n 0, 1) := by decide +kernel
theorem dX10_readStatement_1 : decode cX10_readStatement 1 = .ok (.getfield 183, 3) := by decide +kernel
theorem dX10_readStatement_4 : decode cX10_readStatement 4 = .ok (.istore_n 1, 1) := by decide +kernel
theorem dX10_readStatement_5 : decode cX10_readStatement 5 = .ok (.aload_n 0, 1) := by decide +kernel
theorem dX10_readStatement_6 : decode cX10_readStatement 6 = .ok (.invokevirtual 172, 3) := by decide +kernel
theorem dX10_readStatement_9 : decode cX10_readStatement 9 = .ok (.istore_n 2, 1) := by decide +kernel
theorem dX10_readStatement_10 : decode cX10_readStatement 10 = .ok (.aload_n 0, 1) := by decide +kernel
theorem dX10_readStatement_11 : decode cX10_readStatement 11 = .ok (.getfield 45, 3) := by decide +kernel
theorem dX10_readStatement_14 : decode cX10_readStatement 14 = .ok (.iload_n 1, 1) := by decide +kernel
theorem dX10_readStatement_15 : decode cX10_readStatement 15 = .ok (.aload_n 0, 1) := by decide +kernel
theorem dX10_readStatement_16 : decode cX10_readStatement 16 = .ok (.getfield 162, 3) := by decide +kernel
theorem dX10_readStatement_19 : decode cX10_readStatement 19 = .ok (.iastore, 1) := by decide +kernel
theorem dX10_readStatement_20 : decode cX10_readStatement 20 = .ok (.aload_n 0, 1) := by decide +kernel
theorem dX10_readStatement_21 : decode cX10_readStatement 21 = .ok (.getfield 48, 3) := by decide +kernel
theorem dX10_readStatement_24 : decode cX10_readStatement 24 = .ok (.iload_n 1, 1) := by decide +kernel
theorem dX10_readStatement_25 : decode cX10_readStatement 25 = .ok (.iload_n 2, 1) := by decide +kernel
theorem dX10_readStatement_26 : decode cX10_readStatement 26 = .ok (.iastore, 1) := by decide +kernel
theorem dX10_readStatement_27 : decode cX10_readStatement 27 = .ok (.aload_n 0, 1) := by decide +kernel
theorem dX10_readStatement_28 : decode cX10_readStatement 28 = .ok (.aload_n 0, 1) := by decide +kernel
theorem dX10_readStatement_29 : decode cX10_readStatement 29 = .ok (.getfield 168, 3) := by decide +kernel
theorem dX10_readStatement_32 : decode cX10_readStatement 32 = .ok (.ifCond .ne 10, 3) := by decide +kernel
theorem dX10_readStatement_35 : decode cX10_readStatement 35 = .ok (.iload_n 2, 1) := by decide +kernel
theorem dX10_readStatement_36 : decode cX10_readStatement 36 = .ok (.invokestatic 186, 3) := by decide +kernel
theorem dX10_readStatement_39 : decode cX10_readStatement 39 = .ok (.ifCond .ne 7, 3) := by decide +kernel
theorem dX10_readStatement_42 : decode cX10_readStatement 42 = .ok (.iconst 1, 1) := by decide +kernel
theorem dX10_readStatement_43 : decode cX10_readStatement 43 = .ok (.goto 4, 3) := by decide +kernel
theorem dX10_readStatement_46 : decode cX10_readStatement 46 = .ok (.iconst 0, 1) := by decide +kernel
theorem dX10_readStatement_47 : decode cX10_readStatement 47 = .ok (.putfield 168, 3) := by decide +kernel
theorem dX10_readStatement_50 : decode cX10_readStatement 50 = .ok (.aload_n 0, 1) := by decide +kernel
theorem dX10_readStatement_51 : decode cX10_readStatement 51 = .ok (.dup, 1) := by decide +kernel
theorem dX10_readStatement_52 : decode cX10_readStatement 52 = .ok (.getfield 162, 3) := by decide +kernel
theorem dX10_readStatement_55 : decode cX10_readStatement 55 = .ok (.aload_n 0, 1) := by decide +kernel
theorem dX10_readStatement_56 : decode cX10_readStatement 56 = .ok (.getfield 168, 3) := by decide +kernel
theorem dX10_readStatement_59 : decode cX10_readStatement 59 = .ok (.ifCond .eq 7, 3) := by decide +kernel
theorem dX10_readStatement_62 : decode cX10_readStatement 62 = .ok (.iconst 0, 1) := by decide +kernel
theorem dX10_readStatement_63 : decode cX10_readStatement 63 = .ok (.goto 4, 3) := by decide +kernel
theorem dX10_readStatement_66 : decode cX10_readStatement 66 = .ok (.iconst 1, 1) := by decide +kernel
theorem dX10_readStatement_67 : decode cX10_readStatement 67 = .ok (.iadd, 1) := by decide +kernel
theorem dX10_readStatement_68 : decode cX10_readStatement 68 = .ok (.putfield 162, 3) := by decide +kernel
theorem dX10_readStatement_71 : decode cX10_readStatement 71 = .ok (.aload_n 0, 1) := by decide +kernel
theorem dX10_readStatement_72 : decode cX10_readStatement 72 = .ok (.getfield 168, 3) := by decide +kernel
theorem dX10_readStatement_75 : decode cX10_readStatement 75 = .ok (.ifCond .ne 11, 3) := by decide +kernel
theorem dX10_readStatement_78 : decode cX10_readStatement 78 = .ok (.aload_n 0, 1) := by decide +kernel
theorem dX10_readStatement_79 : decode cX10_readStatement 79 = .ok (.iload_n 2, 1) := by decide +kernel
theorem dX10_readStatement_80 : decode cX10_readStatement 80 = .ok (.iconst 3, 1) := by decide +kernel
theorem dX10_readStatement_81 : decode cX10_readStatement 81 = .ok (.iload_n 1, 1) := by decide +kernel
theorem dX10_readStatement_82 : decode cX10_readStatement 82 = .ok (.imul, 1) := by decide +kernel
theorem dX10_readStatement_83 : decode cX10_readStatement 83 = .ok (.invokevirtual 189, 3) := by decide +kernel
theorem dX10_readStatement_86 : decode cX10_readStatement 86 = .ok (.aload_n 0, 1) := by decide +kernel
theorem dX10_readStatement_87 : decode cX10_readStatement 87 = .ok (.aload_n 0, 1) := by decide +kernel
theorem dX10_readStatement_88 : decode cX10_readStatement 88 = .ok (.getfield 168, 3) := by decide +kernel
theorem dX10_readStatement_91 : decode cX10_readStatement 91 = .ok (.ifCond .ne 12, 3) := by decide +kernel
theorem dX10_readStatement_94 : decode cX10_readStatement 94 = .ok (.aload_n 0, 1) := by decide +kernel
theorem dX10_readStatement_95 : decode cX10_readStatement 95 = .ok (.invokevirtual 172, 3) := by decide +kernel
theorem dX10_readStatement_98 : decode cX10_readStatement 98 = .ok (.bipush 59, 2) := by decide +kernel
theorem dX10_readStatement_100 : decode cX10_readStatement 100 = .ok (.if_icmp .eq 7, 3) := by decide +kernel
theorem dX10_readStatement_103 : decode cX10_readStatement 103 = .ok (.iconst 1, 1) := by decide +kernel
theorem dX10_readStatement_104 : decode cX10_readStatement 104 = .ok (.goto 4, 3) := by decide +kernel
theorem dX10_readStatement_107 : decode cX10_readStatement 107 = .ok (.iconst 0, 1) := by decide +kernel
theorem dX10_readStatement_108 : decode cX10_readStatement 108 = .ok (.putfield 168, 3) := by decide +kernel
theorem dX10_readStatement_111 : decode cX10_readStatement 111 = .ok (.aload_n 0, 1) := by decide +kernel
theorem dX10_readStatement_112 : decode cX10_readStatement 112 = .ok (.dup, 1) := by decide +kernel
theorem dX10_readStatement_113 : decode cX10_readStatement 113 = .ok (.getfield 162, 3) := by decide +kernel
theorem dX10_readStatement_116 : decode cX10_readStatement 116 = .ok (.aload_n 0, 1) := by decide +kernel
theorem dX10_readStatement_117 : decode cX10_readStatement 117 = .ok (.getfield 168, 3) := by decide +kernel
theorem dX10_readStatement_120 : decode cX10_readStatement 120 = .ok (.ifCond .eq 7, 3) := by decide +kernel
theorem dX10_readStatement_123 : decode cX10_readStatement 123 = .ok (.iconst 0, 1) := by decide +kernel
theorem dX10_readStatement_124 : decode cX10_readStatement 124 = .ok (.goto 4, 3) := by decide +kernel
theorem dX10_readStatement_127 : decode cX10_readStatement 127 = .ok (.iconst 1, 1) := by decide +kernel
theorem dX10_readStatement_128 : decode cX10_readStatement 128 = .ok (.iadd, 1) := by decide +kernel
theorem dX10_readStatement_129 : decode cX10_readStatement 129 = .ok (.putfield 162, 3) := by decide +kernel
theorem dX10_readStatement_132 : decode cX10_readStatement 132 = .ok (.aload_n 0, 1) := by decide +kernel
theorem dX10_readStatement_133 : decode cX10_readStatement 133 = .ok (.dup, 1) := by decide +kernel
theorem dX10_readStatement_134 : decode cX10_readStatement 134 = .ok (.getfield 183, 3) := by decide +kernel
theorem dX10_readStatement_137 : decode cX10_readStatement 137 = .ok (.iconst 1, 1) := by decide +kernel
theorem dX10_readStatement_138 : decode cX10_readStatement 138 = .ok (.iadd, 1) := by decide +kernel
theorem dX10_readStatement_139 : decode cX10_readStatement 139 = .ok (.putfield 183, 3) := by decide +kernel
theorem dX10_readStatement_142 : decode cX10_readStatement 142 = .ok (.return_, 1) := by decide +kernel
theorem dX10_bulbComes_0 : decode cX10_bulbComes 0 = .ok (.iload_n 1, 1) := by decide +kernel
theorem dX10_bulbComes_1 : decode cX10_bulbComes 1 = .ok (.bipush 8, 2) := by decide +kernel
theorem dX10_bulbComes_3 : decode cX10_bulbComes 3 = .ok (.if_icmp .ge 16, 3) := by decide +kernel
theorem dX10_bulbComes_6 : decode cX10_bulbComes 6 = .ok (.aload_n 0, 1) := by decide +kernel
theorem dX10_bulbComes_7 : decode cX10_bulbComes 7 = .ok (.getfield 81, 3) := by decide +kernel
theorem dX10_bulbComes_10 : decode cX10_bulbComes 10 = .ok (.bipush 10, 2) := by decide +kernel
theorem dX10_bulbComes_12 : decode cX10_bulbComes 12 = .ok (.if_icmp .ge 7, 3) := by decide +kernel
theorem dX10_bulbComes_15 : decode cX10_bulbComes 15 = .ok (.iconst 1, 1) := by decide +kernel
theorem dX10_bulbComes_16 : decode cX10_bulbComes 16 = .ok (.goto 4, 3) := by decide +kernel
theorem dX10_bulbComes_19 : decode cX10_bulbComes 19 = .ok (.iconst 0, 1) := by decide +kernel
theorem dX10_bulbComes_20 : decode cX10_bulbComes 20 = .ok (.istore_n 3, 1) := by decide +kernel
theorem dX10_bulbComes_21 : decode cX10_bulbComes 21 = .ok (.iload_n 3, 1) := by decide +kernel
theorem dX10_bulbComes_22 : decode cX10_bulbComes 22 = .ok (.ifCond .eq 73, 3) := by decide +kernel
theorem dX10_bulbComes_25 : decode cX10_bulbComes 25 = .ok (.aload_n 0, 1) := by decide +kernel
theorem dX10_bulbComes_26 : decode cX10_bulbComes 26 = .ok (.getfield 7, 3) := by decide +kernel
theorem dX10_bulbComes_29 : decode cX10_bulbComes 29 = .ok (.aload_n 0, 1) := by decide +kernel
theorem dX10_bulbComes_30 : decode cX10_bulbComes 30 = .ok (.getfield 81, 3) := by decide +kernel
theorem dX10_bulbComes_33 : decode cX10_bulbComes 33 = .ok (.iload_n 1, 1) := by decide +kernel
theorem dX10_bulbComes_34 : decode cX10_bulbComes 34 = .ok (.iastore, 1) := by decide +kernel
theorem dX10_bulbComes_35 : decode cX10_bulbComes 35 = .ok (.aload_n 0, 1) := by decide +kernel
theorem dX10_bulbComes_36 : decode cX10_bulbComes 36 = .ok (.getfield 13, 3) := by decide +kernel
theorem dX10_bulbComes_39 : decode cX10_bulbComes 39 = .ok (.aload_n 0, 1) := by decide +kernel
theorem dX10_bulbComes_40 : decode cX10_bulbComes 40 = .ok (.getfield 81, 3) := by decide +kernel
theorem dX10_bulbComes_43 : decode cX10_bulbComes 43 = .ok (.iload_n 2, 1) := by decide +kernel
theorem dX10_bulbComes_44 : decode cX10_bulbComes 44 = .ok (.iastore, 1) := by decide +kernel
theorem dX10_bulbComes_45 : decode cX10_bulbComes 45 = .ok (.aload_n 0, 1) := by decide +kernel
theorem dX10_bulbComes_46 : decode cX10_bulbComes 46 = .ok (.getfield 16, 3) := by decide +kernel
theorem dX10_bulbComes_49 : decode cX10_bulbComes 49 = .ok (.aload_n 0, 1) := by decide +kernel
theorem dX10_bulbComes_50 : decode cX10_bulbComes 50 = .ok (.getfield 81, 3) := by decide +kernel
theorem dX10_bulbComes_53 : decode cX10_bulbComes 53 = .ok (.iconst 0, 1) := by decide +kernel
theorem dX10_bulbComes_54 : decode cX10_bulbComes 54 = .ok (.iastore, 1) := by decide +kernel
theorem dX10_bulbComes_55 : decode cX10_bulbComes 55 = .ok (.aload_n 0, 1) := by decide +kernel
theorem dX10_bulbComes_56 : decode cX10_bulbComes 56 = .ok (.dup, 1) := by decide +kernel
theorem dX10_bulbComes_57 : decode cX10_bulbComes 57 = .ok (.getfield 88, 3) := by decide +kernel
theorem dX10_bulbComes_60 : decode cX10_bulbComes 60 = .ok (.iconst 1, 1) := by decide +kernel
theorem dX10_bulbComes_61 : decode cX10_bulbComes 61 = .ok (.aload_n 0, 1) := by decide +kernel
theorem dX10_bulbComes_62 : decode cX10_bulbComes 62 = .ok (.getfield 81, 3) := by decide +kernel
theorem dX10_bulbComes_65 : decode cX10_bulbComes 65 = .ok (.ishl, 1) := by decide +kernel
theorem dX10_bulbComes_66 : decode cX10_bulbComes 66 = .ok (.ior, 1) := by decide +kernel
theorem dX10_bulbComes_67 : decode cX10_bulbComes 67 = .ok (.putfield 88, 3) := by decide +kernel
theorem dX10_bulbComes_70 : decode cX10_bulbComes 70 = .ok (.aload_n 0, 1) := by decide +kernel
theorem dX10_bulbComes_71 : decode cX10_bulbComes 71 = .ok (.dup, 1) := by decide +kernel
theorem dX10_bulbComes_72 : decode cX10_bulbComes 72 = .ok (.getfield 95, 3) := by decide +kernel
theorem dX10_bulbComes_75 : decode cX10_bulbComes 75 = .ok (.iconst 1, 1) := by decide +kernel
theorem dX10_bulbComes_76 : decode cX10_bulbComes 76 = .ok (.aload_n 0, 1) := by decide +kernel
theorem dX10_bulbComes_77 : decode cX10_bulbComes 77 = .ok (.getfield 81, 3) := by decide +kernel
theorem dX10_bulbComes_80 : decode cX10_bulbComes 80 = .ok (.ishl, 1) := by decide +kernel
theorem dX10_bulbComes_81 : decode cX10_bulbComes 81 = .ok (.ior, 1) := by decide +kernel
theorem dX10_bulbComes_82 : decode cX10_bulbComes 82 = .ok (.putfield 95, 3) := by decide +kernel
theorem dX10_bulbComes_85 : decode cX10_bulbComes 85 = .ok (.aload_n 0, 1) := by decide +kernel
theorem dX10_bulbComes_86 : decode cX10_bulbComes 86 = .ok (.dup, 1) := by decide +kernel
theorem dX10_bulbComes_87 : decode cX10_bulbComes 87 = .ok (.getfield 81, 3) := by decide +kernel
theorem dX10_bulbComes_90 : decode cX10_bulbComes 90 = .ok (.iconst 1, 1) := by decide +kernel
theorem dX10_bulbComes_91 : decode cX10_bulbComes 91 = .ok (.iadd, 1) := by decide +kernel
theorem dX10_bulbComes_92 : decode cX10_bulbComes 92 = .ok (.putfield 81, 3) := by decide +kernel
theorem dX10_bulbComes_95 : decode cX10_bulbComes 95 = .ok (.iload_n 3, 1) := by decide +kernel
theorem dX10_bulbComes_96 : decode cX10_bulbComes 96 = .ok (.ireturn, 1) := by decide +kernel
theorem dX10_ofBulb_0 : decode cX10_ofBulb 0 = .ok (.aload_n 0, 1) := by decide +kernel
theorem dX10_ofBulb_1 : decode cX10_ofBulb 1 = .ok (.iload_n 2, 1) := by decide +kernel
theorem dX10_ofBulb_2 : decode cX10_ofBulb 2 = .ok (.invokevirtual 193, 3) := by decide +kernel
theorem dX10_ofBulb_5 : decode cX10_ofBulb 5 = .ok (.ifCond .eq 20, 3) := by decide +kernel
theorem dX10_ofBulb_8 : decode cX10_ofBulb 8 = .ok (.iload_n 1, 1) := by decide +kernel
theorem dX10_ofBulb_9 : decode cX10_ofBulb 9 = .ok (.bipush 116, 2) := by decide +kernel
theorem dX10_ofBulb_11 : decode cX10_ofBulb 11 = .ok (.if_icmp .ne 10, 3) := by decide +kernel
theorem dX10_ofBulb_14 : decode cX10_ofBulb 14 = .ok (.aload_n 0, 1) := by decide +kernel
theorem dX10_ofBulb_15 : decode cX10_ofBulb 15 = .ok (.getfield 19, 3) := by decide +kernel
theorem dX10_ofBulb_18 : decode cX10_ofBulb 18 = .ok (.ifCond .le 7, 3) := by decide +kernel
theorem dX10_ofBulb_21 : decode cX10_ofBulb 21 = .ok (.iconst 1, 1) := by decide +kernel
theorem dX10_ofBulb_22 : decode cX10_ofBulb 22 = .ok (.goto 4, 3) := by decide +kernel
theorem dX10_ofBulb_25 : decode cX10_ofBulb 25 = .ok (.iconst 0, 1) := by decide +kernel
theorem dX10_ofBulb_26 : decode cX10_ofBulb 26 = .ok (.istore 4, 2) := by decide +kernel
theorem dX10_ofBulb_28 : decode cX10_ofBulb 28 = .ok (.iload 4, 2) := by decide +kernel
theorem dX10_ofBulb_30 : decode cX10_ofBulb 30 = .ok (.ifCond .eq 16, 3) := by decide +kernel
theorem dX10_ofBulb_33 : decode cX10_ofBulb 33 = .ok (.iload_n 1, 1) := by decide +kernel
theorem dX10_ofBulb_34 : decode cX10_ofBulb 34 = .ok (.bipush 119, 2) := by decide +kernel
theorem dX10_ofBulb_36 : decode cX10_ofBulb 36 = .ok (.if_icmp .ne 10, 3) := by decide +kernel
theorem dX10_ofBulb_39 : decode cX10_ofBulb 39 = .ok (.aload_n 0, 1) := by decide +kernel
theorem dX10_ofBulb_40 : decode cX10_ofBulb 40 = .ok (.getfield 16, 3) := by decide +kernel
theorem dX10_ofBulb_43 : decode cX10_ofBulb 43 = .ok (.iload_n 2, 1) := by decide +kernel
theorem dX10_ofBulb_44 : decode cX10_ofBulb 44 = .ok (.iload_n 3, 1) := by decide +kernel
theorem dX10_ofBulb_45 : decode cX10_ofBulb 45 = .ok (.iastore, 1) := by decide +kernel
theorem dX10_ofBulb_46 : decode cX10_ofBulb 46 = .ok (.iload 4, 2) := by decide +kernel
theorem dX10_ofBulb_48 : decode cX10_ofBulb 48 = .ok (.ifCond .eq 21, 3) := by decide +kernel
theorem dX10_ofBulb_51 : decode cX10_ofBulb 51 = .ok (.iload_n 1, 1) := by decide +kernel
theorem dX10_ofBulb_52 : decode cX10_ofBulb 52 = .ok (.bipush 111, 2) := by decide +kernel
theorem dX10_ofBulb_54 : decode cX10_ofBulb 54 = .ok (.if_icmp .ne 15, 3) := by decide +kernel
theorem dX10_ofBulb_57 : decode cX10_ofBulb 57 = .ok (.aload_n 0, 1) := by decide +kernel
theorem dX10_ofBulb_58 : decode cX10_ofBulb 58 = .ok (.dup, 1) := by decide +kernel
theorem dX10_ofBulb_59 : decode cX10_ofBulb 59 = .ok (.getfield 88, 3) := by decide +kernel
theorem dX10_ofBulb_62 : decode cX10_ofBulb 62 = .ok (.iconst 1, 1) := by decide +kernel
theorem dX10_ofBulb_63 : decode cX10_ofBulb 63 = .ok (.iload_n 2, 1) := by decide +kernel
theorem dX10_ofBulb_64 : decode cX10_ofBulb 64 = .ok (.ishl, 1) := by decide +kernel
theorem dX10_ofBulb_65 : decode cX10_ofBulb 65 = .ok (.ixor, 1) := by decide +kernel
theorem dX10_ofBulb_66 : decode cX10_ofBulb 66 = .ok (.putfield 88, 3) := by decide +kernel
theorem dX10_ofBulb_69 : decode cX10_ofBulb 69 = .ok (.iload 4, 2) := by decide +kernel
theorem dX10_ofBulb_71 : decode cX10_ofBulb 71 = .ok (.ifCond .eq 15, 3) := by decide +kernel
theorem dX10_ofBulb_74 : decode cX10_ofBulb 74 = .ok (.iload_n 1, 1) := by decide +kernel
theorem dX10_ofBulb_75 : decode cX10_ofBulb 75 = .ok (.bipush 116, 2) := by decide +kernel
theorem dX10_ofBulb_77 : decode cX10_ofBulb 77 = .ok (.if_icmp .ne 9, 3) := by decide +kernel
theorem dX10_ofBulb_80 : decode cX10_ofBulb 80 = .ok (.aload_n 0, 1) := by decide +kernel
theorem dX10_ofBulb_81 : decode cX10_ofBulb 81 = .ok (.iload_n 2, 1) := by decide +kernel
theorem dX10_ofBulb_82 : decode cX10_ofBulb 82 = .ok (.invokevirtual 196, 3) := by decide +kernel
theorem dX10_ofBulb_85 : decode cX10_ofBulb 85 = .ok (.pop, 1) := by decide +kernel
theorem dX10_ofBulb_86 : decode cX10_ofBulb 86 = .ok (.iload 4, 2) := by decide +kernel
theorem dX10_ofBulb_88 : decode cX10_ofBulb 88 = .ok (.ireturn, 1) := by decide +kernel
theorem dX10_toolComes_0 : decode cX10_toolComes 0 = .ok (.iload_n 1, 1) := by decide +kernel
theorem dX10_toolComes_1 : decode cX10_toolComes 1 = .ok (.iconst 5, 1) := by decide +kernel
theorem dX10_toolComes_2 : decode cX10_toolComes 2 = .ok (.if_icmp .ge 20, 3) := by decide +kernel
theorem dX10_toolComes_5 : decode cX10_toolComes 5 = .ok (.iload_n 2, 1) := by decide +kernel
theorem dX10_toolComes_6 : decode cX10_toolComes 6 = .ok (.iload_n 3, 1) := by decide +kernel
theorem dX10_toolComes_7 : decode cX10_toolComes 7 = .ok (.if_icmp .gt 15, 3) := by decide +kernel
theorem dX10_toolComes_10 : decode cX10_toolComes 10 = .ok (.aload_n 0, 1) := by decide +kernel
theorem dX10_toolComes_11 : decode cX10_toolComes 11 = .ok (.iload_n 3, 1) := by decide +kernel
theorem dX10_toolComes_12 : decode cX10_toolComes 12 = .ok (.invokevirtual 193, 3) := by decide +kernel
theorem dX10_toolComes_15 : decode cX10_toolComes 15 = .ok (.ifCond .eq 7, 3) := by decide +kernel
theorem dX10_toolComes_18 : decode cX10_toolComes 18 = .ok (.iconst 1, 1) := by decide +kernel
theorem dX10_toolComes_19 : decode cX10_toolComes 19 = .ok (.goto 4, 3) := by decide +kernel
theorem dX10_toolComes_22 : decode cX10_toolComes 22 = .ok (.iconst 0, 1) := by decide +kernel
theorem dX10_toolComes_23 : decode cX10_toolComes 23 = .ok (.istore 4, 2) := by decide +kernel
theorem dX10_toolComes_25 : decode cX10_toolComes 25 = .ok (.iload 4, 2) := by decide +kernel
theorem dX10_toolComes_27 : decode cX10_toolComes 27 = .ok (.ifCond .eq 11, 3) := by decide +kernel
theorem dX10_toolComes_30 : decode cX10_toolComes 30 = .ok (.aload_n 0, 1) := by decide +kernel
theorem dX10_toolComes_31 : decode cX10_toolComes 31 = .ok (.iload_n 1, 1) := by decide +kernel
theorem dX10_toolComes_32 : decode cX10_toolComes 32 = .ok (.iload_n 2, 1) := by decide +kernel
theorem dX10_toolComes_33 : decode cX10_toolComes 33 = .ok (.iload_n 3, 1) := by decide +kernel
theorem dX10_toolComes_34 : decode cX10_toolComes 34 = .ok (.invokevirtual 199, 3) := by decide +kernel
theorem dX10_toolComes_37 : decode cX10_toolComes 37 = .ok (.pop, 1) := by decide +kernel
theorem dX10_toolComes_38 : decode cX10_toolComes 38 = .ok (.iload 4, 2) := by decide +kernel
theorem dX10_toolComes_40 : decode cX10_toolComes 40 = .ok (.ireturn, 1) := by decide +kernel
theorem dX10_hoursCome_0 : decode cX10_hoursCome 0 = .ok (.iload_n 1, 1) := by decide +kernel
theorem dX10_hoursCome_1 : decode cX10_hoursCome 1 = .ok (.i2l, 1) := by decide +kernel
theorem dX10_hoursCome_2 : decode cX10_hoursCome 2 = .ok (.lconst 1, 1) := by decide +kernel
theorem dX10_hoursCome_3 : decode cX10_hoursCome 3 = .ok (.ldc2_w 202, 3) := by decide +kernel
theorem dX10_hoursCome_6 : decode cX10_hoursCome 6 = .ok (.invokestatic 84, 3) := by decide +kernel
theorem dX10_hoursCome_9 : decode cX10_hoursCome 9 = .ok (.ifCond .eq 19, 3) := by decide +kernel
theorem dX10_hoursCome_12 : decode cX10_hoursCome 12 = .ok (.aload_n 0, 1) := by decide +kernel
theorem dX10_hoursCome_13 : decode cX10_hoursCome 13 = .ok (.getfield 105, 3) := by decide +kernel
theorem dX10_hoursCome_16 : decode cX10_hoursCome 16 = .ok (.iload_n 1, 1) := by decide +kernel
theorem dX10_hoursCome_17 : decode cX10_hoursCome 17 = .ok (.iadd, 1) := by decide +kernel
theorem dX10_hoursCome_18 : decode cX10_hoursCome 18 = .ok (.sipush 999, 3) := by decide +kernel
theorem dX10_hoursCome_21 : decode cX10_hoursCome 21 = .ok (.if_icmp .gt 7, 3) := by decide +kernel
theorem dX10_hoursCome_24 : decode cX10_hoursCome 24 = .ok (.iconst 1, 1) := by decide +kernel
theorem dX10_hoursCome_25 : decode cX10_hoursCome 25 = .ok (.goto 4, 3) := by decide +kernel
theorem dX10_hoursCome_28 : decode cX10_hoursCome 28 = .ok (.iconst 0, 1) := by decide +kernel
theorem dX10_hoursCome_29 : decode cX10_hoursCome 29 = .ok (.istore_n 2, 1) := by decide +kernel
theorem dX10_hoursCome_30 : decode cX10_hoursCome 30 = .ok (.iload_n 2, 1) := by decide +kernel
theorem dX10_hoursCome_31 : decode cX10_hoursCome 31 = .ok (.ifCond .eq 8, 3) := by decide +kernel
theorem dX10_hoursCome_34 : decode cX10_hoursCome 34 = .ok (.aload_n 0, 1) := by decide +kernel
theorem dX10_hoursCome_35 : decode cX10_hoursCome 35 = .ok (.iload_n 1, 1) := by decide +kernel
theorem dX10_hoursCome_36 : decode cX10_hoursCome 36 = .ok (.invokevirtual 204, 3) := by decide +kernel
theorem dX10_hoursCome_39 : decode cX10_hoursCome 39 = .ok (.iload_n 2, 1) := by decide +kernel
theorem dX10_hoursCome_40 : decode cX10_hoursCome 40 = .ok (.ireturn, 1) := by decide +kernel
theorem dX10_comesTold_0 : decode cX10_comesTold 0 = .ok (.aload_n 0, 1) := by decide +kernel
theorem dX10_comesTold_1 : decode cX10_comesTold 1 = .ok (.getfield 51, 3) := by decide +kernel
theorem dX10_comesTold_4 : decode cX10_comesTold 4 = .ok (.iconst 3, 1) := by decide +kernel
theorem dX10_comesTold_5 : decode cX10_comesTold 5 = .ok (.iload_n 1, 1) := by decide +kernel
theorem dX10_comesTold_6 : decode cX10_comesTold 6 = .ok (.imul, 1) := by decide +kernel
theorem dX10_comesTold_7 : decode cX10_comesTold 7 = .ok (.iaload, 1) := by decide +kernel
theorem dX10_comesTold_8 : decode cX10_comesTold 8 = .ok (.istore_n 2, 1) := by decide +kernel
theorem dX10_comesTold_9 : decode cX10_comesTold 9 = .ok (.aload_n 0, 1) := by decide +kernel
theorem dX10_comesTold_10 : decode cX10_comesTold 10 = .ok (.getfield 51, 3) := by decide +kernel
theorem dX10_comesTold_13 : decode cX10_comesTold 13 = .ok (.iconst 3, 1) := by decide +kernel
theorem dX10_comesTold_14 : decode cX10_comesTold 14 = .ok (.iload_n 1, 1) := by decide +kernel
theorem dX10_comesTold_15 : decode cX10_comesTold 15 = .ok (.imul, 1) := by decide +kernel
theorem dX10_comesTold_16 : decode cX10_comesTold 16 = .ok (.iconst 1, 1) := by decide +kernel
theorem dX10_comesTold_17 : decode cX10_comesTold 17 = .ok (.iadd, 1) := by decide +kernel
theorem dX10_comesTold_18 : decode cX10_comesTold 18 = .ok (.iaload, 1) := by decide +kernel
theorem dX10_comesTold_19 : decode cX10_comesTold 19 = .ok (.istore_n 3, 1) := by decide +kernel
theorem dX10_comesTold_20 : decode cX10_comesTold 20 = .ok (.aload_n 0, 1) := by decide +kernel
theorem dX10_comesTold_21 : decode cX10_comesTold 21 = .ok (.getfield 48, 3) := by decide +kernel
theorem dX10_comesTold_24 : decode cX10_comesTold 24 = .ok (.iload_n 1, 1) := by decide +kernel
theorem dX10_comesTold_25 : decode cX10_comesTold 25 = .ok (.iaload, 1) := by decide +kernel
theorem dX10_comesTold_26 : decode cX10_comesTold 26 = .ok (.lookupswitch 79 #[(98, 42), (104, 73), (115, 49), (117, 56)], 42) := by decide +kernel
theorem dX10_comesTold_68 : decode cX10_comesTold 68 = .ok (.aload_n 0, 1) := by decide +kernel
theorem dX10_comesTold_69 : decode cX10_comesTold 69 = .ok (.iload_n 2, 1) := by decide +kernel
theorem dX10_comesTold_70 : decode cX10_comesTold 70 = .ok (.iload_n 3, 1) := by decide +kernel
theorem dX10_comesTold_71 : decode cX10_comesTold 71 = .ok (.invokevirtual 207, 3) := by decide +kernel
theorem dX10_comesTold_74 : decode cX10_comesTold 74 = .ok (.ireturn, 1) := by decide +kernel
theorem dX10_comesTold_75 : decode cX10_comesTold 75 = .ok (.aload_n 0, 1) := by decide +kernel
theorem dX10_comesTold_76 : decode cX10_comesTold 76 = .ok (.iload_n 2, 1) := by decide +kernel
theorem dX10_comesTold_77 : decode cX10_comesTold 77 = .ok (.putfield 19, 3) := by decide +kernel
theorem dX10_comesTold_80 : decode cX10_comesTold 80 = .ok (.iconst 1, 1) := by decide +kernel
theorem dX10_comesTold_81 : decode cX10_comesTold 81 = .ok (.ireturn, 1) := by decide +kernel
theorem dX10_comesTold_82 : decode cX10_comesTold 82 = .ok (.aload_n 0, 1) := by decide +kernel
theorem dX10_comesTold_83 : decode cX10_comesTold 83 = .ok (.iload_n 2, 1) := by decide +kernel
theorem dX10_comesTold_84 : decode cX10_comesTold 84 = .ok (.iload_n 3, 1) := by decide +kernel
theorem dX10_comesTold_85 : decode cX10_comesTold 85 = .ok (.aload_n 0, 1) := by decide +kernel
theorem dX10_comesTold_86 : decode cX10_comesTold 86 = .ok (.getfield 51, 3) := by decide +kernel
theorem dX10_comesTold_89 : decode cX10_comesTold 89 = .ok (.iconst 3, 1) := by decide +kernel
theorem dX10_comesTold_90 : decode cX10_comesTold 90 = .ok (.iload_n 1, 1) := by decide +kernel
theorem dX10_comesTold_91 : decode cX10_comesTold 91 = .ok (.imul, 1) := by decide +kernel
theorem dX10_comesTold_92 : decode cX10_comesTold 92 = .ok (.iconst 2, 1) := by decide +kernel
theorem dX10_comesTold_93 : decode cX10_comesTold 93 = .ok (.iadd, 1) := by decide +kernel
theorem dX10_comesTold_94 : decode cX10_comesTold 94 = .ok (.iaload, 1) := by decide +kernel
theorem dX10_comesTold_95 : decode cX10_comesTold 95 = .ok (.invokevirtual 210, 3) := by decide +kernel
theorem dX10_comesTold_98 : decode cX10_comesTold 98 = .ok (.ireturn, 1) := by decide +kernel
theorem dX10_comesTold_99 : decode cX10_comesTold 99 = .ok (.aload_n 0, 1) := by decide +kernel
theorem dX10_comesTold_100 : decode cX10_comesTold 100 = .ok (.iload_n 2, 1) := by decide +kernel
theorem dX10_comesTold_101 : decode cX10_comesTold 101 = .ok (.invokevirtual 213, 3) := by decide +kernel
theorem dX10_comesTold_104 : decode cX10_comesTold 104 = .ok (.ireturn, 1) := by decide +kernel
theorem dX10_comesTold_105 : decode cX10_comesTold 105 = .ok (.aload_n 0, 1) := by decide +kernel
theorem dX10_comesTold_106 : decode cX10_comesTold 106 = .ok (.aload_n 0, 1) := by decide +kernel
theorem dX10_comesTold_107 : decode cX10_comesTold 107 = .ok (.getfield 48, 3) := by decide +kernel
theorem dX10_comesTold_110 : decode cX10_comesTold 110 = .ok (.iload_n 1, 1) := by decide +kernel
theorem dX10_comesTold_111 : decode cX10_comesTold 111 = .ok (.iaload, 1) := by decide +kernel
theorem dX10_comesTold_112 : decode cX10_comesTold 112 = .ok (.iload_n 2, 1) := by decide +kernel
theorem dX10_comesTold_113 : decode cX10_comesTold 113 = .ok (.iload_n 3, 1) := by decide +kernel
theorem dX10_comesTold_114 : decode cX10_comesTold 114 = .ok (.invokevirtual 216, 3) := by decide +kernel
theorem dX10_comesTold_117 : decode cX10_comesTold 117 = .ok (.ireturn, 1) := by decide +kernel
theorem dX10_string_0 : decode cX10_string 0 = .ok (.aload_n 0, 1) := by decide +kernel
theorem dX10_string_1 : decode cX10_string 1 = .ok (.iconst 0, 1) := by decide +kernel
theorem dX10_string_2 : decode cX10_string 2 = .ok (.putfield 78, 3) := by decide +kernel
theorem dX10_string_5 : decode cX10_string 5 = .ok (.aload_n 0, 1) := by decide +kernel
theorem dX10_string_6 : decode cX10_string 6 = .ok (.iload_n 1, 1) := by decide +kernel
theorem dX10_string_7 : decode cX10_string 7 = .ok (.invokevirtual 219, 3) := by decide +kernel
theorem dX10_string_10 : decode cX10_string 10 = .ok (.istore_n 2, 1) := by decide +kernel
theorem dX10_string_11 : decode cX10_string 11 = .ok (.iload_n 2, 1) := by decide +kernel
theorem dX10_string_12 : decode cX10_string 12 = .ok (.ifCond .ne 17, 3) := by decide +kernel
theorem dX10_string_15 : decode cX10_string 15 = .ok (.aload_n 0, 1) := by decide +kernel
theorem dX10_string_16 : decode cX10_string 16 = .ok (.getfield 35, 3) := by decide +kernel
theorem dX10_string_19 : decode cX10_string 19 = .ok (.iload_n 1, 1) := by decide +kernel
theorem dX10_string_20 : decode cX10_string 20 = .ok (.iaload, 1) := by decide +kernel
theorem dX10_string_21 : decode cX10_string 21 = .ok (.ifCond .eq 8, 3) := by decide +kernel
theorem dX10_string_24 : decode cX10_string 24 = .ok (.bipush (-12), 2) := by decide +kernel
theorem dX10_string_26 : decode cX10_string 26 = .ok (.goto 4, 3) := by decide +kernel
theorem dX10_string_29 : decode cX10_string 29 = .ok (.iload_n 2, 1) := by decide +kernel
theorem dX10_string_30 : decode cX10_string 30 = .ok (.istore_n 2, 1) := by decide +kernel
theorem dX10_string_31 : decode cX10_string 31 = .ok (.iload_n 2, 1) := by decide +kernel
theorem dX10_string_32 : decode cX10_string 32 = .ok (.ifCond .ge 5, 3) := by decide +kernel
theorem dX10_string_35 : decode cX10_string 35 = .ok (.iload_n 2, 1) := by decide +kernel
theorem dX10_string_36 : decode cX10_string 36 = .ok (.ireturn, 1) := by decide +kernel
theorem dX10_string_37 : decode cX10_string 37 = .ok (.aload_n 0, 1) := by decide +kernel
theorem dX10_string_38 : decode cX10_string 38 = .ok (.iload_n 1, 1) := by decide +kernel
theorem dX10_string_39 : decode cX10_string 39 = .ok (.putfield 165, 3) := by decide +kernel
theorem dX10_string_42 : decode cX10_string 42 = .ok (.aload_n 0, 1) := by decide +kernel
theorem dX10_string_43 : decode cX10_string 43 = .ok (.iconst 0, 1) := by decide +kernel
theorem dX10_string_44 : decode cX10_string 44 = .ok (.putfield 162, 3) := by decide +kernel
theorem dX10_string_47 : decode cX10_string 47 = .ok (.aload_n 0, 1) := by decide +kernel
theorem dX10_string_48 : decode cX10_string 48 = .ok (.iconst 0, 1) := by decide +kernel
theorem dX10_string_49 : decode cX10_string 49 = .ok (.putfield 168, 3) := by decide +kernel
theorem dX10_string_52 : decode cX10_string 52 = .ok (.aload_n 0, 1) := by decide +kernel
theorem dX10_string_53 : decode cX10_string 53 = .ok (.iconst 0, 1) := by decide +kernel
theorem dX10_string_54 : decode cX10_string 54 = .ok (.putfield 183, 3) := by decide +kernel
theorem dX10_string_57 : decode cX10_string 57 = .ok (.aload_n 0, 1) := by decide +kernel
theorem dX10_string_58 : decode cX10_string 58 = .ok (.getfield 168, 3) := by decide +kernel
theorem dX10_string_61 : decode cX10_string 61 = .ok (.ifCond .ne 30, 3) := by decide +kernel
theorem dX10_string_64 : decode cX10_string 64 = .ok (.aload_n 0, 1) := by decide +kernel
theorem dX10_string_65 : decode cX10_string 65 = .ok (.getfield 183, 3) := by decide +kernel
theorem dX10_string_68 : decode cX10_string 68 = .ok (.ifCond .eq 16, 3) := by decide +kernel
theorem dX10_string_71 : decode cX10_string 71 = .ok (.aload_n 0, 1) := by decide +kernel
theorem dX10_string_72 : decode cX10_string 72 = .ok (.getfield 162, 3) := by decide +kernel
theorem dX10_string_75 : decode cX10_string 75 = .ok (.aload_n 0, 1) := by decide +kernel
theorem dX10_string_76 : decode cX10_string 76 = .ok (.getfield 38, 3) := by decide +kernel
theorem dX10_string_79 : decode cX10_string 79 = .ok (.iload_n 1, 1) := by decide +kernel
theorem dX10_string_80 : decode cX10_string 80 = .ok (.iaload, 1) := by decide +kernel
theorem dX10_string_81 : decode cX10_string 81 = .ok (.if_icmp .ge 10, 3) := by decide +kernel
theorem dX10_string_84 : decode cX10_string 84 = .ok (.aload_n 0, 1) := by decide +kernel
theorem dX10_string_85 : decode cX10_string 85 = .ok (.invokevirtual 222, 3) := by decide +kernel
theorem dX10_string_88 : decode cX10_string 88 = .ok (.goto (-31), 3) := by decide +kernel
theorem dX10_string_91 : decode cX10_string 91 = .ok (.aload_n 0, 1) := by decide +kernel
theorem dX10_string_92 : decode cX10_string 92 = .ok (.getfield 168, 3) := by decide +kernel
theorem dX10_string_95 : decode cX10_string 95 = .ok (.ifCond .eq 12, 3) := by decide +kernel
theorem dX10_string_98 : decode cX10_string 98 = .ok (.sipush (-1000), 3) := by decide +kernel
theorem dX10_string_101 : decode cX10_string 101 = .ok (.aload_n 0, 1) := by decide +kernel
theorem dX10_string_102 : decode cX10_string 102 = .ok (.getfield 162, 3) := by decide +kernel
theorem dX10_string_105 : decode cX10_string 105 = .ok (.isub, 1) := by decide +kernel
theorem dX10_string_106 : decode cX10_string 106 = .ok (.ireturn, 1) := by decide +kernel
theorem dX10_string_107 : decode cX10_string 107 = .ok (.aload_n 0, 1) := by decide +kernel
theorem dX10_string_108 : decode cX10_string 108 = .ok (.invokevirtual 225, 3) := by decide +kernel
theorem dX10_string_111 : decode cX10_string 111 = .ok (.iconst 0, 1) := by decide +kernel
theorem dX10_string_112 : decode cX10_string 112 = .ok (.istore_n 3, 1) := by decide +kernel
theorem dX10_string_113 : decode cX10_string 113 = .ok (.iload_n 3, 1) := by decide +kernel
theorem dX10_string_114 : decode cX10_string 114 = .ok (.aload_n 0, 1) := by decide +kernel
theorem dX10_string_115 : decode cX10_string 115 = .ok (.getfield 183, 3) := by decide +kernel
theorem dX10_string_118 : decode cX10_string 118 = .ok (.if_icmp .ge 32, 3) := by decide +kernel
theorem dX10_string_121 : decode cX10_string 121 = .ok (.aload_n 0, 1) := by decide +kernel
theorem dX10_string_122 : decode cX10_string 122 = .ok (.iload_n 3, 1) := by decide +kernel
theorem dX10_string_123 : decode cX10_string 123 = .ok (.invokevirtual 228, 3) := by decide +kernel
theorem dX10_string_126 : decode cX10_string 126 = .ok (.ifCond .ne 18, 3) := by decide +kernel
theorem dX10_string_129 : decode cX10_string 129 = .ok (.aload_n 0, 1) := by decide +kernel
theorem dX10_string_130 : decode cX10_string 130 = .ok (.invokevirtual 231, 3) := by decide +kernel
theorem dX10_string_133 : decode cX10_string 133 = .ok (.sipush (-2000), 3) := by decide +kernel
theorem dX10_string_136 : decode cX10_string 136 = .ok (.aload_n 0, 1) := by decide +kernel
theorem dX10_string_137 : decode cX10_string 137 = .ok (.getfield 45, 3) := by decide +kernel
theorem dX10_string_140 : decode cX10_string 140 = .ok (.iload_n 3, 1) := by decide +kernel
theorem dX10_string_141 : decode cX10_string 141 = .ok (.iaload, 1) := by decide +kernel
theorem dX10_string_142 : decode cX10_string 142 = .ok (.isub, 1) := by decide +kernel
theorem dX10_string_143 : decode cX10_string 143 = .ok (.ireturn, 1) := by decide +kernel
theorem dX10_string_144 : decode cX10_string 144 = .ok (.iinc 3 1, 3) := by decide +kernel
theorem dX10_string_147 : decode cX10_string 147 = .ok (.goto (-34), 3) := by decide +kernel
theorem dX10_string_150 : decode cX10_string 150 = .ok (.aload_n 0, 1) := by decide +kernel
theorem dX10_string_151 : decode cX10_string 151 = .ok (.getfield 183, 3) := by decide +kernel
theorem dX10_string_154 : decode cX10_string 154 = .ok (.ireturn, 1) := by decide +kernel
theorem dX10_carry_0 : decode cX10_carry 0 = .ok (.aload_n 0, 1) := by decide +kernel
theorem dX10_carry_1 : decode cX10_carry 1 = .ok (.getfield 234, 3) := by decide +kernel
theorem dX10_carry_4 : decode cX10_carry 4 = .ok (.ifCond .eq 13, 3) := by decide +kernel
theorem dX10_carry_7 : decode cX10_carry 7 = .ok (.aload_n 0, 1) := by decide +kernel
theorem dX10_carry_8 : decode cX10_carry 8 = .ok (.getfield 237, 3) := by decide +kernel
theorem dX10_carry_11 : decode cX10_carry 11 = .ok (.aload_n 0, 1) := by decide +kernel
theorem dX10_carry_12 : decode cX10_carry 12 = .ok (.getfield 240, 3) := by decide +kernel
theorem dX10_carry_15 : decode cX10_carry 15 = .ok (.iload_n 1, 1) := by decide +kernel
theorem dX10_carry_16 : decode cX10_carry 16 = .ok (.iastore, 1) := by decide +kernel
theorem dX10_carry_17 : decode cX10_carry 17 = .ok (.aload_n 0, 1) := by decide +kernel
theorem dX10_carry_18 : decode cX10_carry 18 = .ok (.dup, 1) := by decide +kernel
theorem dX10_carry_19 : decode cX10_carry 19 = .ok (.getfield 240, 3) := by decide +kernel
theorem dX10_carry_22 : decode cX10_carry 22 = .ok (.iconst 1, 1) := by decide +kernel
theorem dX10_carry_23 : decode cX10_carry 23 = .ok (.iadd, 1) := by decide +kernel
theorem dX10_carry_24 : decode cX10_carry 24 = .ok (.putfield 240, 3) := by decide +kernel
theorem dX10_carry_27 : decode cX10_carry 27 = .ok (.aload_n 0, 1) := by decide +kernel
theorem dX10_carry_28 : decode cX10_carry 28 = .ok (.getfield 237, 3) := by decide +kernel
theorem dX10_carry_31 : decode cX10_carry 31 = .ok (.aload_n 0, 1) := by decide +kernel
theorem dX10_carry_32 : decode cX10_carry 32 = .ok (.getfield 240, 3) := by decide +kernel
theorem dX10_carry_35 : decode cX10_carry 35 = .ok (.iconst 1, 1) := by decide +kernel
theorem dX10_carry_36 : decode cX10_carry 36 = .ok (.isub, 1) := by decide +kernel
theorem dX10_carry_37 : decode cX10_carry 37 = .ok (.iaload, 1) := by decide +kernel
theorem dX10_carry_38 : decode cX10_carry 38 = .ok (.ireturn, 1) := by decide +kernel
theorem dX10_carryAll_0 : decode cX10_carryAll 0 = .ok (.aload_n 0, 1) := by decide +kernel
theorem dX10_carryAll_1 : decode cX10_carryAll 1 = .ok (.aload_n 1, 1) := by decide +kernel
theorem dX10_carryAll_2 : decode cX10_carryAll 2 = .ok (.putfield 237, 3) := by decide +kernel
theorem dX10_carryAll_5 : decode cX10_carryAll 5 = .ok (.aload_n 0, 1) := by decide +kernel
theorem dX10_carryAll_6 : decode cX10_carryAll 6 = .ok (.iload_n 2, 1) := by decide +kernel
theorem dX10_carryAll_7 : decode cX10_carryAll 7 = .ok (.putfield 234, 3) := by decide +kernel
theorem dX10_carryAll_10 : decode cX10_carryAll 10 = .ok (.aload_n 0, 1) := by decide +kernel
theorem dX10_carryAll_11 : decode cX10_carryAll 11 = .ok (.iconst 0, 1) := by decide +kernel
theorem dX10_carryAll_12 : decode cX10_carryAll 12 = .ok (.putfield 240, 3) := by decide +kernel
theorem dX10_carryAll_15 : decode cX10_carryAll 15 = .ok (.aload_n 0, 1) := by decide +kernel
theorem dX10_carryAll_16 : decode cX10_carryAll 16 = .ok (.aload_n 0, 1) := by decide +kernel
theorem dX10_carryAll_17 : decode cX10_carryAll 17 = .ok (.aload_n 0, 1) := by decide +kernel
theorem dX10_carryAll_18 : decode cX10_carryAll 18 = .ok (.getfield 81, 3) := by decide +kernel
theorem dX10_carryAll_21 : decode cX10_carryAll 21 = .ok (.invokevirtual 243, 3) := by decide +kernel
theorem dX10_carryAll_24 : decode cX10_carryAll 24 = .ok (.putfield 81, 3) := by decide +kernel
theorem dX10_carryAll_27 : decode cX10_carryAll 27 = .ok (.aload_n 0, 1) := by decide +kernel
theorem dX10_carryAll_28 : decode cX10_carryAll 28 = .ok (.aload_n 0, 1) := by decide +kernel
theorem dX10_carryAll_29 : decode cX10_carryAll 29 = .ok (.aload_n 0, 1) := by decide +kernel
theorem dX10_carryAll_30 : decode cX10_carryAll 30 = .ok (.getfield 88, 3) := by decide +kernel
theorem dX10_carryAll_33 : decode cX10_carryAll 33 = .ok (.invokevirtual 243, 3) := by decide +kernel
theorem dX10_carryAll_36 : decode cX10_carryAll 36 = .ok (.putfield 88, 3) := by decide +kernel
theorem dX10_carryAll_39 : decode cX10_carryAll 39 = .ok (.aload_n 0, 1) := by decide +kernel
theorem dX10_carryAll_40 : decode cX10_carryAll 40 = .ok (.aload_n 0, 1) := by decide +kernel
theorem dX10_carryAll_41 : decode cX10_carryAll 41 = .ok (.aload_n 0, 1) := by decide +kernel
theorem dX10_carryAll_42 : decode cX10_carryAll 42 = .ok (.getfield 95, 3) := by decide +kernel
theorem dX10_carryAll_45 : decode cX10_carryAll 45 = .ok (.invokevirtual 243, 3) := by decide +kernel
theorem dX10_carryAll_48 : decode cX10_carryAll 48 = .ok (.putfield 95, 3) := by decide +kernel
theorem dX10_carryAll_51 : decode cX10_carryAll 51 = .ok (.aload_n 0, 1) := by decide +kernel
theorem dX10_carryAll_52 : decode cX10_carryAll 52 = .ok (.aload_n 0, 1) := by decide +kernel
theorem dX10_carryAll_53 : decode cX10_carryAll 53 = .ok (.aload_n 0, 1) := by decide +kernel
theorem dX10_carryAll_54 : decode cX10_carryAll 54 = .ok (.getfield 19, 3) := by decide +kernel
theorem dX10_carryAll_57 : decode cX10_carryAll 57 = .ok (.invokevirtual 243, 3) := by decide +kernel
theorem dX10_carryAll_60 : decode cX10_carryAll 60 = .ok (.putfield 19, 3) := by decide +kernel
theorem dX10_carryAll_63 : decode cX10_carryAll 63 = .ok (.aload_n 0, 1) := by decide +kernel
theorem dX10_carryAll_64 : decode cX10_carryAll 64 = .ok (.aload_n 0, 1) := by decide +kernel
theorem dX10_carryAll_65 : decode cX10_carryAll 65 = .ok (.aload_n 0, 1) := by decide +kernel
theorem dX10_carryAll_66 : decode cX10_carryAll 66 = .ok (.getfield 105, 3) := by decide +kernel
theorem dX10_carryAll_69 : decode cX10_carryAll 69 = .ok (.invokevirtual 243, 3) := by decide +kernel
theorem dX10_carryAll_72 : decode cX10_carryAll 72 = .ok (.putfield 105, 3) := by decide +kernel
theorem dX10_carryAll_75 : decode cX10_carryAll 75 = .ok (.aload_n 0, 1) := by decide +kernel
theorem dX10_carryAll_76 : decode cX10_carryAll 76 = .ok (.aload_n 0, 1) := by decide +kernel
theorem dX10_carryAll_77 : decode cX10_carryAll 77 = .ok (.aload_n 0, 1) := by decide +kernel
theorem dX10_carryAll_78 : decode cX10_carryAll 78 = .ok (.getfield 131, 3) := by decide +kernel
theorem dX10_carryAll_81 : decode cX10_carryAll 81 = .ok (.invokevirtual 243, 3) := by decide +kernel
theorem dX10_carryAll_84 : decode cX10_carryAll 84 = .ok (.putfield 131, 3) := by decide +kernel
theorem dX10_carryAll_87 : decode cX10_carryAll 87 = .ok (.aload_n 0, 1) := by decide +kernel
theorem dX10_carryAll_88 : decode cX10_carryAll 88 = .ok (.aload_n 0, 1) := by decide +kernel
theorem dX10_carryAll_89 : decode cX10_carryAll 89 = .ok (.aload_n 0, 1) := by decide +kernel
theorem dX10_carryAll_90 : decode cX10_carryAll 90 = .ok (.getfield 149, 3) := by decide +kernel
theorem dX10_carryAll_93 : decode cX10_carryAll 93 = .ok (.invokevirtual 243, 3) := by decide +kernel
theorem dX10_carryAll_96 : decode cX10_carryAll 96 = .ok (.putfield 149, 3) := by decide +kernel
theorem dX10_carryAll_99 : decode cX10_carryAll 99 = .ok (.aload_n 0, 1) := by decide +kernel
theorem dX10_carryAll_100 : decode cX10_carryAll 100 = .ok (.aload_n 0, 1) := by decide +kernel
theorem dX10_carryAll_101 : decode cX10_carryAll 101 = .ok (.aload_n 0, 1) := by decide +kernel
theorem dX10_carryAll_102 : decode cX10_carryAll 102 = .ok (.getfield 142, 3) := by decide +kernel
theorem dX10_carryAll_105 : decode cX10_carryAll 105 = .ok (.invokevirtual 243, 3) := by decide +kernel
theorem dX10_carryAll_108 : decode cX10_carryAll 108 = .ok (.putfield 142, 3) := by decide +kernel
theorem dX10_carryAll_111 : decode cX10_carryAll 111 = .ok (.iconst 0, 1) := by decide +kernel
theorem dX10_carryAll_112 : decode cX10_carryAll 112 = .ok (.istore_n 3, 1) := by decide +kernel
theorem dX10_carryAll_113 : decode cX10_carryAll 113 = .ok (.iload_n 3, 1) := by decide +kernel
theorem dX10_carryAll_114 : decode cX10_carryAll 114 = .ok (.bipush 10, 2) := by decide +kernel
theorem dX10_carryAll_116 : decode cX10_carryAll 116 = .ok (.if_icmp .ge 57, 3) := by decide +kernel
theorem dX10_carryAll_119 : decode cX10_carryAll 119 = .ok (.aload_n 0, 1) := by decide +kernel
theorem dX10_carryAll_120 : decode cX10_carryAll 120 = .ok (.getfield 7, 3) := by decide +kernel
theorem dX10_carryAll_123 : decode cX10_carryAll 123 = .ok (.iload_n 3, 1) := by decide +kernel
theorem dX10_carryAll_124 : decode cX10_carryAll 124 = .ok (.aload_n 0, 1) := by decide +kernel
theorem dX10_carryAll_125 : decode cX10_carryAll 125 = .ok (.aload_n 0, 1) := by decide +kernel
theorem dX10_carryAll_126 : decode cX10_carryAll 126 = .ok (.getfield 7, 3) := by decide +kernel
theorem dX10_carryAll_129 : decode cX10_carryAll 129 = .ok (.iload_n 3, 1) := by decide +kernel
theorem dX10_carryAll_130 : decode cX10_carryAll 130 = .ok (.iaload, 1) := by decide +kernel
theorem dX10_carryAll_131 : decode cX10_carryAll 131 = .ok (.invokevirtual 243, 3) := by decide +kernel
theorem dX10_carryAll_134 : decode cX10_carryAll 134 = .ok (.iastore, 1) := by decide +kernel
theorem dX10_carryAll_135 : decode cX10_carryAll 135 = .ok (.aload_n 0, 1) := by decide +kernel
theorem dX10_carryAll_136 : decode cX10_carryAll 136 = .ok (.getfield 13, 3) := by decide +kernel
theorem dX10_carryAll_139 : decode cX10_carryAll 139 = .ok (.iload_n 3, 1) := by decide +kernel
theorem dX10_carryAll_140 : decode cX10_carryAll 140 = .ok (.aload_n 0, 1) := by decide +kernel
theorem dX10_carryAll_141 : decode cX10_carryAll 141 = .ok (.aload_n 0, 1) := by decide +kernel
theorem dX10_carryAll_142 : decode cX10_carryAll 142 = .ok (.getfield 13, 3) := by decide +kernel
theorem dX10_carryAll_145 : decode cX10_carryAll 145 = .ok (.iload_n 3, 1) := by decide +kernel
theorem dX10_carryAll_146 : decode cX10_carryAll 146 = .ok (.iaload, 1) := by decide +kernel
theorem dX10_carryAll_147 : decode cX10_carryAll 147 = .ok (.invokevirtual 243, 3) := by decide +kernel
theorem dX10_carryAll_150 : decode cX10_carryAll 150 = .ok (.iastore, 1) := by decide +kernel
theorem dX10_carryAll_151 : decode cX10_carryAll 151 = .ok (.aload_n 0, 1) := by decide +kernel
theorem dX10_carryAll_152 : decode cX10_carryAll 152 = .ok (.getfield 16, 3) := by decide +kernel
theorem dX10_carryAll_155 : decode cX10_carryAll 155 = .ok (.iload_n 3, 1) := by decide +kernel
theorem dX10_carryAll_156 : decode cX10_carryAll 156 = .ok (.aload_n 0, 1) := by decide +kernel
theorem dX10_carryAll_157 : decode cX10_carryAll 157 = .ok (.aload_n 0, 1) := by decide +kernel
theorem dX10_carryAll_158 : decode cX10_carryAll 158 = .ok (.getfield 16, 3) := by decide +kernel
theorem dX10_carryAll_161 : decode cX10_carryAll 161 = .ok (.iload_n 3, 1) := by decide +kernel
theorem dX10_carryAll_162 : decode cX10_carryAll 162 = .ok (.iaload, 1) := by decide +kernel
theorem dX10_carryAll_163 : decode cX10_carryAll 163 = .ok (.invokevirtual 243, 3) := by decide +kernel
theorem dX10_carryAll_166 : decode cX10_carryAll 166 = .ok (.iastore, 1) := by decide +kernel
theorem dX10_carryAll_167 : decode cX10_carryAll 167 = .ok (.iinc 3 1, 3) := by decide +kernel
theorem dX10_carryAll_170 : decode cX10_carryAll 170 = .ok (.goto (-57), 3) := by decide +kernel
theorem dX10_carryAll_173 : decode cX10_carryAll 173 = .ok (.return_, 1) := by decide +kernel
theorem dX10_think_0 : decode cX10_think 0 = .ok (.aload_n 0, 1) := by decide +kernel
theorem dX10_think_1 : decode cX10_think 1 = .ok (.aload_n 0, 1) := by decide +kernel
theorem dX10_think_2 : decode cX10_think 2 = .ok (.getfield 54, 3) := by decide +kernel
theorem dX10_think_5 : decode cX10_think 5 = .ok (.iconst 1, 1) := by decide +kernel
theorem dX10_think_6 : decode cX10_think 6 = .ok (.invokevirtual 246, 3) := by decide +kernel
theorem dX10_think_9 : decode cX10_think 9 = .ok (.return_, 1) := by decide +kernel
theorem dX10_again_0 : decode cX10_again 0 = .ok (.aload_n 0, 1) := by decide +kernel
theorem dX10_again_1 : decode cX10_again 1 = .ok (.aload_n 0, 1) := by decide +kernel
theorem dX10_again_2 : decode cX10_again 2 = .ok (.getfield 54, 3) := by decide +kernel
theorem dX10_again_5 : decode cX10_again 5 = .ok (.iconst 0, 1) := by decide +kernel
theorem dX10_again_6 : decode cX10_again 6 = .ok (.invokevirtual 246, 3) := by decide +kernel
theorem dX10_again_9 : decode cX10_again 9 = .ok (.return_, 1) := by decide +kernel
theorem dX10_image_0 : decode cX10_image 0 = .ok (.aload_n 0, 1) := by decide +kernel
theorem dX10_image_1 : decode cX10_image 1 = .ok (.iconst 0, 1) := by decide +kernel
theorem dX10_image_2 : decode cX10_image 2 = .ok (.putfield 78, 3) := by decide +kernel
theorem dX10_image_5 : decode cX10_image 5 = .ok (.aload_n 0, 1) := by decide +kernel
theorem dX10_image_6 : decode cX10_image 6 = .ok (.iconst 1, 1) := by decide +kernel
theorem dX10_image_7 : decode cX10_image 7 = .ok (.putfield 250, 3) := by decide +kernel
theorem dX10_image_10 : decode cX10_image 10 = .ok (.aload_n 0, 1) := by decide +kernel
theorem dX10_image_11 : decode cX10_image 11 = .ok (.aload_n 0, 1) := by decide +kernel
theorem dX10_image_12 : decode cX10_image 12 = .ok (.getfield 57, 3) := by decide +kernel
theorem dX10_image_15 : decode cX10_image 15 = .ok (.iconst 1, 1) := by decide +kernel
theorem dX10_image_16 : decode cX10_image 16 = .ok (.invokevirtual 246, 3) := by decide +kernel
theorem dX10_image_19 : decode cX10_image 19 = .ok (.aload_n 0, 1) := by decide +kernel
theorem dX10_image_20 : decode cX10_image 20 = .ok (.getfield 105, 3) := by decide +kernel
theorem dX10_image_23 : decode cX10_image 23 = .ok (.ireturn, 1) := by decide +kernel
theorem dX10_restore_0 : decode cX10_restore 0 = .ok (.aload_n 0, 1) := by decide +kernel
theorem dX10_restore_1 : decode cX10_restore 1 = .ok (.iconst 0, 1) := by decide +kernel
theorem dX10_restore_2 : decode cX10_restore 2 = .ok (.putfield 78, 3) := by decide +kernel
theorem dX10_restore_5 : decode cX10_restore 5 = .ok (.aload_n 0, 1) := by decide +kernel
theorem dX10_restore_6 : decode cX10_restore 6 = .ok (.getfield 250, 3) := by decide +kernel
theorem dX10_restore_9 : decode cX10_restore 9 = .ok (.ifCond .ne 6, 3) := by decide +kernel
theorem dX10_restore_12 : decode cX10_restore 12 = .ok (.bipush (-3), 2) := by decide +kernel
theorem dX10_restore_14 : decode cX10_restore 14 = .ok (.ireturn, 1) := by decide +kernel
theorem dX10_restore_15 : decode cX10_restore 15 = .ok (.aload_n 0, 1) := by decide +kernel
theorem dX10_restore_16 : decode cX10_restore 16 = .ok (.aload_n 0, 1) := by decide +kernel
theorem dX10_restore_17 : decode cX10_restore 17 = .ok (.getfield 57, 3) := by decide +kernel
theorem dX10_restore_20 : decode cX10_restore 20 = .ok (.iconst 0, 1) := by decide +kernel
theorem dX10_restore_21 : decode cX10_restore 21 = .ok (.invokevirtual 246, 3) := by decide +kernel
theorem dX10_restore_24 : decode cX10_restore 24 = .ok (.aload_n 0, 1) := by decide +kernel
theorem dX10_restore_25 : decode cX10_restore 25 = .ok (.getfield 105, 3) := by decide +kernel
theorem dX10_restore_28 : decode cX10_restore 28 = .ok (.ireturn, 1) := by decide +kernel
theorem dX10_bulb_0 : decode cX10_bulb 0 = .ok (.aload_n 0, 1) := by decide +kernel
theorem dX10_bulb_1 : decode cX10_bulb 1 = .ok (.iconst 0, 1) := by decide +kernel
theorem dX10_bulb_2 : decode cX10_bulb 2 = .ok (.putfield 78, 3) := by decide +kernel
theorem dX10_bulb_5 : decode cX10_bulb 5 = .ok (.aload_n 0, 1) := by decide +kernel
theorem dX10_bulb_6 : decode cX10_bulb 6 = .ok (.iload_n 1, 1) := by decide +kernel
theorem dX10_bulb_7 : decode cX10_bulb 7 = .ok (.invokevirtual 193, 3) := by decide +kernel
theorem dX10_bulb_10 : decode cX10_bulb 10 = .ok (.ifCond .eq 15, 3) := by decide +kernel
theorem dX10_bulb_13 : decode cX10_bulb 13 = .ok (.iload_n 2, 1) := by decide +kernel
theorem dX10_bulb_14 : decode cX10_bulb 14 = .ok (.i2l, 1) := by decide +kernel
theorem dX10_bulb_15 : decode cX10_bulb 15 = .ok (.lconst 0, 1) := by decide +kernel
theorem dX10_bulb_16 : decode cX10_bulb 16 = .ok (.ldc2_w 253, 3) := by decide +kernel
theorem dX10_bulb_19 : decode cX10_bulb 19 = .ok (.invokestatic 84, 3) := by decide +kernel
theorem dX10_bulb_22 : decode cX10_bulb 22 = .ok (.ifCond .ne 5, 3) := by decide +kernel
theorem dX10_bulb_25 : decode cX10_bulb 25 = .ok (.iconst (-1), 1) := by decide +kernel
theorem dX10_bulb_26 : decode cX10_bulb 26 = .ok (.ireturn, 1) := by decide +kernel
theorem dX10_bulb_27 : decode cX10_bulb 27 = .ok (.iload_n 2, 1) := by decide +kernel
theorem dX10_bulb_28 : decode cX10_bulb 28 = .ok (.tableswitch 95 0 6 #[44, 51, 58, 65, 74, 83, 89], 44) := by decide +kernel
theorem dX10_bulb_72 : decode cX10_bulb 72 = .ok (.aload_n 0, 1) := by decide +kernel
theorem dX10_bulb_73 : decode cX10_bulb 73 = .ok (.getfield 7, 3) := by decide +kernel
theorem dX10_bulb_76 : decode cX10_bulb 76 = .ok (.iload_n 1, 1) := by decide +kernel
theorem dX10_bulb_77 : decode cX10_bulb 77 = .ok (.iaload, 1) := by decide +kernel
theorem dX10_bulb_78 : decode cX10_bulb 78 = .ok (.ireturn, 1) := by decide +kernel
theorem dX10_bulb_79 : decode cX10_bulb 79 = .ok (.aload_n 0, 1) := by decide +kernel
theorem dX10_bulb_80 : decode cX10_bulb 80 = .ok (.getfield 13, 3) := by decide +kernel
theorem dX10_bulb_83 : decode cX10_bulb 83 = .ok (.iload_n 1, 1) := by decide +kernel
theorem dX10_bulb_84 : decode cX10_bulb 84 = .ok (.iaload, 1) := by decide +kernel
theorem dX10_bulb_85 : decode cX10_bulb 85 = .ok (.ireturn, 1) := by decide +kernel
theorem dX10_bulb_86 : decode cX10_bulb 86 = .ok (.aload_n 0, 1) := by decide +kernel
theorem dX10_bulb_87 : decode cX10_bulb 87 = .ok (.getfield 16, 3) := by decide +kernel
theorem dX10_bulb_90 : decode cX10_bulb 90 = .ok (.iload_n 1, 1) := by decide +kernel
theorem dX10_bulb_91 : decode cX10_bulb 91 = .ok (.iaload, 1) := by decide +kernel
theorem dX10_bulb_92 : decode cX10_bulb 92 = .ok (.ireturn, 1) := by decide +kernel
theorem dX10_bulb_93 : decode cX10_bulb 93 = .ok (.aload_n 0, 1) := by decide +kernel
theorem dX10_bulb_94 : decode cX10_bulb 94 = .ok (.getfield 88, 3) := by decide +kernel
theorem dX10_bulb_97 : decode cX10_bulb 97 = .ok (.iload_n 1, 1) := by decide +kernel
theorem dX10_bulb_98 : decode cX10_bulb 98 = .ok (.ishr, 1) := by decide +kernel
theorem dX10_bulb_99 : decode cX10_bulb 99 = .ok (.iconst 1, 1) := by decide +kernel
theorem dX10_bulb_100 : decode cX10_bulb 100 = .ok (.iand, 1) := by decide +kernel
theorem dX10_bulb_101 : decode cX10_bulb 101 = .ok (.ireturn, 1) := by decide +kernel
theorem dX10_bulb_102 : decode cX10_bulb 102 = .ok (.aload_n 0, 1) := by decide +kernel
theorem dX10_bulb_103 : decode cX10_bulb 103 = .ok (.getfield 95, 3) := by decide +kernel
theorem dX10_bulb_106 : decode cX10_bulb 106 = .ok (.iload_n 1, 1) := by decide +kernel
theorem dX10_bulb_107 : decode cX10_bulb 107 = .ok (.ishr, 1) := by decide +kernel
theorem dX10_bulb_108 : decode cX10_bulb 108 = .ok (.iconst 1, 1) := by decide +kernel
theorem dX10_bulb_109 : decode cX10_bulb 109 = .ok (.iand, 1) := by decide +kernel
theorem dX10_bulb_110 : decode cX10_bulb 110 = .ok (.ireturn, 1) := by decide +kernel
theorem dX10_bulb_111 : decode cX10_bulb 111 = .ok (.aload_n 0, 1) := by decide +kernel
theorem dX10_bulb_112 : decode cX10_bulb 112 = .ok (.iload_n 1, 1) := by decide +kernel
theorem dX10_bulb_113 : decode cX10_bulb 113 = .ok (.invokevirtual 98, 3) := by decide +kernel
theorem dX10_bulb_116 : decode cX10_bulb 116 = .ok (.ireturn, 1) := by decide +kernel
theorem dX10_bulb_117 : decode cX10_bulb 117 = .ok (.aload_n 0, 1) := by decide +kernel
theorem dX10_bulb_118 : decode cX10_bulb 118 = .ok (.iload_n 1, 1) := by decide +kernel
theorem dX10_bulb_119 : decode cX10_bulb 119 = .ok (.invokevirtual 119, 3) := by decide +kernel
theorem dX10_bulb_122 : decode cX10_bulb 122 = .ok (.ireturn, 1) := by decide +kernel
theorem dX10_bulb_123 : decode cX10_bulb 123 = .ok (.aload_n 0, 1) := by decide +kernel
theorem dX10_bulb_124 : decode cX10_bulb 124 = .ok (.iload_n 1, 1) := by decide +kernel
theorem dX10_bulb_125 : decode cX10_bulb 125 = .ok (.aload_n 0, 1) := by decide +kernel
theorem dX10_bulb_126 : decode cX10_bulb 126 = .ok (.getfield 105, 3) := by decide +kernel
theorem dX10_bulb_129 : decode cX10_bulb 129 = .ok (.iconst 1, 1) := by decide +kernel
theorem dX10_bulb_130 : decode cX10_bulb 130 = .ok (.iadd, 1) := by decide +kernel
theorem dX10_bulb_131 : decode cX10_bulb 131 = .ok (.invokevirtual 102, 3) := by decide +kernel
theorem dX10_bulb_134 : decode cX10_bulb 134 = .ok (.ifCond .eq 7, 3) := by decide +kernel
theorem dX10_bulb_137 : decode cX10_bulb 137 = .ok (.iconst 1, 1) := by decide +kernel
theorem dX10_bulb_138 : decode cX10_bulb 138 = .ok (.goto 4, 3) := by decide +kernel
theorem dX10_bulb_141 : decode cX10_bulb 141 = .ok (.iconst 0, 1) := by decide +kernel
theorem dX10_bulb_142 : decode cX10_bulb 142 = .ok (.ireturn, 1) := by decide +kernel
theorem dX10_hangs_0 : decode cX10_hangs 0 = .ok (.aload_n 0, 1) := by decide +kernel
theorem dX10_hangs_1 : decode cX10_hangs 1 = .ok (.iconst 0, 1) := by decide +kernel
theorem dX10_hangs_2 : decode cX10_hangs 2 = .ok (.putfield 78, 3) := by decide +kernel
theorem dX10_hangs_5 : decode cX10_hangs 5 = .ok (.iload_n 1, 1) := by decide +kernel
theorem dX10_hangs_6 : decode cX10_hangs 6 = .ok (.i2l, 1) := by decide +kernel
theorem dX10_hangs_7 : decode cX10_hangs 7 = .ok (.lconst 0, 1) := by decide +kernel
theorem dX10_hangs_8 : decode cX10_hangs 8 = .ok (.ldc2_w 253, 3) := by decide +kernel
theorem dX10_hangs_11 : decode cX10_hangs 11 = .ok (.invokestatic 84, 3) := by decide +kernel
theorem dX10_hangs_14 : decode cX10_hangs 14 = .ok (.ifCond .ne 5, 3) := by decide +kernel
theorem dX10_hangs_17 : decode cX10_hangs 17 = .ok (.iconst (-1), 1) := by decide +kernel
theorem dX10_hangs_18 : decode cX10_hangs 18 = .ok (.ireturn, 1) := by decide +kernel
theorem dX10_hangs_19 : decode cX10_hangs 19 = .ok (.aload_n 0, 1) := by decide +kernel
theorem dX10_hangs_20 : decode cX10_hangs 20 = .ok (.iload_n 1, 1) := by decide +kernel
theorem dX10_hangs_21 : decode cX10_hangs 21 = .ok (.invokevirtual 255, 3) := by decide +kernel
theorem dX10_hangs_24 : decode cX10_hangs 24 = .ok (.ifCond .lt 12, 3) := by decide +kernel
theorem dX10_hangs_27 : decode cX10_hangs 27 = .ok (.aload_n 0, 1) := by decide +kernel
theorem dX10_hangs_28 : decode cX10_hangs 28 = .ok (.getfield 81, 3) := by decide +kernel
theorem dX10_hangs_31 : decode cX10_hangs 31 = .ok (.bipush 10, 2) := by decide +kernel
theorem dX10_hangs_33 : decode cX10_hangs 33 = .ok (.if_icmp .ne 22, 3) := by decide +kernel
theorem dX10_hangs_36 : decode cX10_hangs 36 = .ok (.aload_n 0, 1) := by decide +kernel
theorem dX10_hangs_37 : decode cX10_hangs 37 = .ok (.iload_n 1, 1) := by decide +kernel
theorem dX10_hangs_38 : decode cX10_hangs 38 = .ok (.invokevirtual 255, 3) := by decide +kernel
theorem dX10_hangs_41 : decode cX10_hangs 41 = .ok (.ifCond .ge 11, 3) := by decide +kernel
theorem dX10_hangs_44 : decode cX10_hangs 44 = .ok (.aload_n 0, 1) := by decide +kernel
theorem dX10_hangs_45 : decode cX10_hangs 45 = .ok (.iload_n 1, 1) := by decide +kernel
theorem dX10_hangs_46 : decode cX10_hangs 46 = .ok (.invokevirtual 255, 3) := by decide +kernel
theorem dX10_hangs_49 : decode cX10_hangs 49 = .ok (.goto 5, 3) := by decide +kernel
theorem dX10_hangs_52 : decode cX10_hangs 52 = .ok (.bipush (-2), 2) := by decide +kernel
theorem dX10_hangs_54 : decode cX10_hangs 54 = .ok (.ireturn, 1) := by decide +kernel
theorem dX10_hangs_55 : decode cX10_hangs 55 = .ok (.aload_n 0, 1) := by decide +kernel
theorem dX10_hangs_56 : decode cX10_hangs 56 = .ok (.aload_n 0, 1) := by decide +kernel
theorem dX10_hangs_57 : decode cX10_hangs 57 = .ok (.getfield 29, 3) := by decide +kernel
theorem dX10_hangs_60 : decode cX10_hangs 60 = .ok (.iload_n 1, 1) := by decide +kernel
theorem dX10_hangs_61 : decode cX10_hangs 61 = .ok (.iaload, 1) := by decide +kernel
theorem dX10_hangs_62 : decode cX10_hangs 62 = .ok (.aload_n 0, 1) := by decide +kernel
theorem dX10_hangs_63 : decode cX10_hangs 63 = .ok (.getfield 32, 3) := by decide +kernel
theorem dX10_hangs_66 : decode cX10_hangs 66 = .ok (.iload_n 1, 1) := by decide +kernel
theorem dX10_hangs_67 : decode cX10_hangs 67 = .ok (.iaload, 1) := by decide +kernel
theorem dX10_hangs_68 : decode cX10_hangs 68 = .ok (.invokevirtual 207, 3) := by decide +kernel
theorem dX10_hangs_71 : decode cX10_hangs 71 = .ok (.pop, 1) := by decide +kernel
theorem dX10_hangs_72 : decode cX10_hangs 72 = .ok (.aload_n 0, 1) := by decide +kernel
theorem dX10_hangs_73 : decode cX10_hangs 73 = .ok (.getfield 81, 3) := by decide +kernel
theorem dX10_hangs_76 : decode cX10_hangs 76 = .ok (.iconst 1, 1) := by decide +kernel
theorem dX10_hangs_77 : decode cX10_hangs 77 = .ok (.isub, 1) := by decide +kernel
theorem dX10_hangs_78 : decode cX10_hangs 78 = .ok (.ireturn, 1) := by decide +kernel
theorem dX10_wears_0 : decode cX10_wears 0 = .ok (.aload_n 0, 1) := by decide +kernel
theorem dX10_wears_1 : decode cX10_wears 1 = .ok (.iconst 0, 1) := by decide +kernel
theorem dX10_wears_2 : decode cX10_wears 2 = .ok (.putfield 78, 3) := by decide +kernel
theorem dX10_wears_5 : decode cX10_wears 5 = .ok (.aload_n 0, 1) := by decide +kernel
theorem dX10_wears_6 : decode cX10_wears 6 = .ok (.iload_n 1, 1) := by decide +kernel
theorem dX10_wears_7 : decode cX10_wears 7 = .ok (.invokevirtual 193, 3) := by decide +kernel
theorem dX10_wears_10 : decode cX10_wears 10 = .ok (.ifCond .eq 15, 3) := by decide +kernel
theorem dX10_wears_13 : decode cX10_wears 13 = .ok (.iload_n 2, 1) := by decide +kernel
theorem dX10_wears_14 : decode cX10_wears 14 = .ok (.i2l, 1) := by decide +kernel
theorem dX10_wears_15 : decode cX10_wears 15 = .ok (.lconst 0, 1) := by decide +kernel
theorem dX10_wears_16 : decode cX10_wears 16 = .ok (.ldc2_w 258, 3) := by decide +kernel
theorem dX10_wears_19 : decode cX10_wears 19 = .ok (.invokestatic 84, 3) := by decide +kernel
theorem dX10_wears_22 : decode cX10_wears 22 = .ok (.ifCond .ne 5, 3) := by decide +kernel
theorem dX10_wears_25 : decode cX10_wears 25 = .ok (.iconst (-1), 1) := by decide +kernel
theorem dX10_wears_26 : decode cX10_wears 26 = .ok (.ireturn, 1) := by decide +kernel
theorem dX10_wears_27 : decode cX10_wears 27 = .ok (.aload_n 0, 1) := by decide +kernel
theorem dX10_wears_28 : decode cX10_wears 28 = .ok (.getfield 16, 3) := by decide +kernel
theorem dX10_wears_31 : decode cX10_wears 31 = .ok (.iload_n 1, 1) := by decide +kernel
theorem dX10_wears_32 : decode cX10_wears 32 = .ok (.iaload, 1) := by decide +kernel
theorem dX10_wears_33 : decode cX10_wears 33 = .ok (.istore_n 3, 1) := by decide +kernel
theorem dX10_wears_34 : decode cX10_wears 34 = .ok (.aload_n 0, 1) := by decide +kernel
theorem dX10_wears_35 : decode cX10_wears 35 = .ok (.getfield 16, 3) := by decide +kernel
theorem dX10_wears_38 : decode cX10_wears 38 = .ok (.iload_n 1, 1) := by decide +kernel
theorem dX10_wears_39 : decode cX10_wears 39 = .ok (.iload_n 2, 1) := by decide +kernel
theorem dX10_wears_40 : decode cX10_wears 40 = .ok (.iastore, 1) := by decide +kernel
theorem dX10_wears_41 : decode cX10_wears 41 = .ok (.iload_n 3, 1) := by decide +kernel
theorem dX10_wears_42 : decode cX10_wears 42 = .ok (.ireturn, 1) := by decide +kernel
theorem dX10_breaks_0 : decode cX10_breaks 0 = .ok (.aload_n 0, 1) := by decide +kernel
theorem dX10_breaks_1 : decode cX10_breaks 1 = .ok (.iconst 0, 1) := by decide +kernel
theorem dX10_breaks_2 : decode cX10_breaks 2 = .ok (.putfield 78, 3) := by decide +kernel
theorem dX10_breaks_5 : decode cX10_breaks 5 = .ok (.aload_n 0, 1) := by decide +kernel
theorem dX10_breaks_6 : decode cX10_breaks 6 = .ok (.iload_n 1, 1) := by decide +kernel
theorem dX10_breaks_7 : decode cX10_breaks 7 = .ok (.invokevirtual 193, 3) := by decide +kernel
theorem dX10_breaks_10 : decode cX10_breaks 10 = .ok (.ifCond .ne 5, 3) := by decide +kernel
theorem dX10_breaks_13 : decode cX10_breaks 13 = .ok (.iconst (-1), 1) := by decide +kernel
theorem dX10_breaks_14 : decode cX10_breaks 14 = .ok (.ireturn, 1) := by decide +kernel
theorem dX10_breaks_15 : decode cX10_breaks 15 = .ok (.aload_n 0, 1) := by decide +kernel
theorem dX10_breaks_16 : decode cX10_breaks 16 = .ok (.dup, 1) := by decide +kernel
theorem dX10_breaks_17 : decode cX10_breaks 17 = .ok (.getfield 88, 3) := by decide +kernel
theorem dX10_breaks_20 : decode cX10_breaks 20 = .ok (.iconst 1, 1) := by decide +kernel
theorem dX10_breaks_21 : decode cX10_breaks 21 = .ok (.iload_n 1, 1) := by decide +kernel
theorem dX10_breaks_22 : decode cX10_breaks 22 = .ok (.ishl, 1) := by decide +kernel
theorem dX10_breaks_23 : decode cX10_breaks 23 = .ok (.ixor, 1) := by decide +kernel
theorem dX10_breaks_24 : decode cX10_breaks 24 = .ok (.putfield 88, 3) := by decide +kernel
theorem dX10_breaks_27 : decode cX10_breaks 27 = .ok (.aload_n 0, 1) := by decide +kernel
theorem dX10_breaks_28 : decode cX10_breaks 28 = .ok (.getfield 88, 3) := by decide +kernel
theorem dX10_breaks_31 : decode cX10_breaks 31 = .ok (.iload_n 1, 1) := by decide +kernel
theorem dX10_breaks_32 : decode cX10_breaks 32 = .ok (.ishr, 1) := by decide +kernel
theorem dX10_breaks_33 : decode cX10_breaks 33 = .ok (.iconst 1, 1) := by decide +kernel
theorem dX10_breaks_34 : decode cX10_breaks 34 = .ok (.iand, 1) := by decide +kernel
theorem dX10_breaks_35 : decode cX10_breaks 35 = .ok (.ireturn, 1) := by decide +kernel
theorem dX10_spares_0 : decode cX10_spares 0 = .ok (.aload_n 0, 1) := by decide +kernel
theorem dX10_spares_1 : decode cX10_spares 1 = .ok (.iconst 0, 1) := by decide +kernel
theorem dX10_spares_2 : decode cX10_spares 2 = .ok (.putfield 78, 3) := by decide +kernel
theorem dX10_spares_5 : decode cX10_spares 5 = .ok (.iload_n 1, 1) := by decide +kernel
theorem dX10_spares_6 : decode cX10_spares 6 = .ok (.i2l, 1) := by decide +kernel
theorem dX10_spares_7 : decode cX10_spares 7 = .ok (.lconst 0, 1) := by decide +kernel
theorem dX10_spares_8 : decode cX10_spares 8 = .ok (.ldc2_w 260, 3) := by decide +kernel
theorem dX10_spares_11 : decode cX10_spares 11 = .ok (.invokestatic 84, 3) := by decide +kernel
theorem dX10_spares_14 : decode cX10_spares 14 = .ok (.ifCond .ne 5, 3) := by decide +kernel
theorem dX10_spares_17 : decode cX10_spares 17 = .ok (.iconst (-1), 1) := by decide +kernel
theorem dX10_spares_18 : decode cX10_spares 18 = .ok (.ireturn, 1) := by decide +kernel
theorem dX10_spares_19 : decode cX10_spares 19 = .ok (.aload_n 0, 1) := by decide +kernel
theorem dX10_spares_20 : decode cX10_spares 20 = .ok (.getfield 19, 3) := by decide +kernel
theorem dX10_spares_23 : decode cX10_spares 23 = .ok (.istore_n 2, 1) := by decide +kernel
theorem dX10_spares_24 : decode cX10_spares 24 = .ok (.aload_n 0, 1) := by decide +kernel
theorem dX10_spares_25 : decode cX10_spares 25 = .ok (.iload_n 1, 1) := by decide +kernel
theorem dX10_spares_26 : decode cX10_spares 26 = .ok (.putfield 19, 3) := by decide +kernel
theorem dX10_spares_29 : decode cX10_spares 29 = .ok (.iload_n 2, 1) := by decide +kernel
theorem dX10_spares_30 : decode cX10_spares 30 = .ok (.ireturn, 1) := by decide +kernel
theorem dX10_twist_0 : decode cX10_twist 0 = .ok (.aload_n 0, 1) := by decide +kernel
theorem dX10_twist_1 : decode cX10_twist 1 = .ok (.iconst 0, 1) := by decide +kernel
theorem dX10_twist_2 : decode cX10_twist 2 = .ok (.putfield 78, 3) := by decide +kernel
theorem dX10_twist_5 : decode cX10_twist 5 = .ok (.aload_n 0, 1) := by decide +kernel
theorem dX10_twist_6 : decode cX10_twist 6 = .ok (.iload_n 1, 1) := by decide +kernel
theorem dX10_twist_7 : decode cX10_twist 7 = .ok (.invokevirtual 193, 3) := by decide +kernel
theorem dX10_twist_10 : decode cX10_twist 10 = .ok (.ifCond .ne 5, 3) := by decide +kernel
theorem dX10_twist_13 : decode cX10_twist 13 = .ok (.iconst (-1), 1) := by decide +kernel
theorem dX10_twist_14 : decode cX10_twist 14 = .ok (.ireturn, 1) := by decide +kernel
theorem dX10_twist_15 : decode cX10_twist 15 = .ok (.aload_n 0, 1) := by decide +kernel
theorem dX10_twist_16 : decode cX10_twist 16 = .ok (.getfield 19, 3) := by decide +kernel
theorem dX10_twist_19 : decode cX10_twist 19 = .ok (.ifCond .ne 8, 3) := by decide +kernel
theorem dX10_twist_22 : decode cX10_twist 22 = .ok (.bipush (-3), 2) := by decide +kernel
theorem dX10_twist_24 : decode cX10_twist 24 = .ok (.goto 8, 3) := by decide +kernel
theorem dX10_twist_27 : decode cX10_twist 27 = .ok (.aload_n 0, 1) := by decide +kernel
theorem dX10_twist_28 : decode cX10_twist 28 = .ok (.iload_n 1, 1) := by decide +kernel
theorem dX10_twist_29 : decode cX10_twist 29 = .ok (.invokevirtual 196, 3) := by decide +kernel
theorem dX10_twist_32 : decode cX10_twist 32 = .ok (.ireturn, 1) := by decide +kernel
theorem dX10_isUse_0 : decode cX10_isUse 0 = .ok (.iload_n 1, 1) := by decide +kernel
theorem dX10_isUse_1 : decode cX10_isUse 1 = .ok (.i2l, 1) := by decide +kernel
theorem dX10_isUse_2 : decode cX10_isUse 2 = .ok (.lconst 0, 1) := by decide +kernel
theorem dX10_isUse_3 : decode cX10_isUse 3 = .ok (.ldc2_w 262, 3) := by decide +kernel
theorem dX10_isUse_6 : decode cX10_isUse 6 = .ok (.invokestatic 84, 3) := by decide +kernel
theorem dX10_isUse_9 : decode cX10_isUse 9 = .ok (.ifCond .eq 28, 3) := by decide +kernel
theorem dX10_isUse_12 : decode cX10_isUse 12 = .ok (.aload_n 0, 1) := by decide +kernel
theorem dX10_isUse_13 : decode cX10_isUse 13 = .ok (.iload_n 2, 1) := by decide +kernel
theorem dX10_isUse_14 : decode cX10_isUse 14 = .ok (.invokevirtual 193, 3) := by decide +kernel
theorem dX10_isUse_17 : decode cX10_isUse 17 = .ok (.ifCond .eq 20, 3) := by decide +kernel
theorem dX10_isUse_20 : decode cX10_isUse 20 = .ok (.aload_n 0, 1) := by decide +kernel
theorem dX10_isUse_21 : decode cX10_isUse 21 = .ok (.iload_n 3, 1) := by decide +kernel
theorem dX10_isUse_22 : decode cX10_isUse 22 = .ok (.invokevirtual 193, 3) := by decide +kernel
theorem dX10_isUse_25 : decode cX10_isUse 25 = .ok (.ifCond .eq 12, 3) := by decide +kernel
theorem dX10_isUse_28 : decode cX10_isUse 28 = .ok (.iload_n 2, 1) := by decide +kernel
theorem dX10_isUse_29 : decode cX10_isUse 29 = .ok (.iload_n 3, 1) := by decide +kernel
theorem dX10_isUse_30 : decode cX10_isUse 30 = .ok (.if_icmp .gt 7, 3) := by decide +kernel
theorem dX10_isUse_33 : decode cX10_isUse 33 = .ok (.iconst 1, 1) := by decide +kernel
theorem dX10_isUse_34 : decode cX10_isUse 34 = .ok (.goto 4, 3) := by decide +kernel
theorem dX10_isUse_37 : decode cX10_isUse 37 = .ok (.iconst 0, 1) := by decide +kernel
theorem dX10_isUse_38 : decode cX10_isUse 38 = .ok (.ireturn, 1) := by decide +kernel
theorem dX10_use_0 : decode cX10_use 0 = .ok (.aload_n 0, 1) := by decide +kernel
theorem dX10_use_1 : decode cX10_use 1 = .ok (.iconst 0, 1) := by decide +kernel
theorem dX10_use_2 : decode cX10_use 2 = .ok (.putfield 78, 3) := by decide +kernel
theorem dX10_use_5 : decode cX10_use 5 = .ok (.aload_n 0, 1) := by decide +kernel
theorem dX10_use_6 : decode cX10_use 6 = .ok (.iload_n 1, 1) := by decide +kernel
theorem dX10_use_7 : decode cX10_use 7 = .ok (.iload_n 2, 1) := by decide +kernel
theorem dX10_use_8 : decode cX10_use 8 = .ok (.iload_n 3, 1) := by decide +kernel
theorem dX10_use_9 : decode cX10_use 9 = .ok (.invokevirtual 264, 3) := by decide +kernel
theorem dX10_use_12 : decode cX10_use 12 = .ok (.ifCond .eq 13, 3) := by decide +kernel
theorem dX10_use_15 : decode cX10_use 15 = .ok (.aload_n 0, 1) := by decide +kernel
theorem dX10_use_16 : decode cX10_use 16 = .ok (.iload_n 1, 1) := by decide +kernel
theorem dX10_use_17 : decode cX10_use 17 = .ok (.iload_n 2, 1) := by decide +kernel
theorem dX10_use_18 : decode cX10_use 18 = .ok (.iload_n 3, 1) := by decide +kernel
theorem dX10_use_19 : decode cX10_use 19 = .ok (.invokevirtual 199, 3) := by decide +kernel
theorem dX10_use_22 : decode cX10_use 22 = .ok (.goto 4, 3) := by decide +kernel
theorem dX10_use_25 : decode cX10_use 25 = .ok (.iconst (-1), 1) := by decide +kernel
theorem dX10_use_26 : decode cX10_use 26 = .ok (.ireturn, 1) := by decide +kernel
theorem dX10_hours_0 : decode cX10_hours 0 = .ok (.aload_n 0, 1) := by decide +kernel
theorem dX10_hours_1 : decode cX10_hours 1 = .ok (.iconst 0, 1) := by decide +kernel
theorem dX10_hours_2 : decode cX10_hours 2 = .ok (.putfield 78, 3) := by decide +kernel
theorem dX10_hours_5 : decode cX10_hours 5 = .ok (.iload_n 1, 1) := by decide +kernel
theorem dX10_hours_6 : decode cX10_hours 6 = .ok (.i2l, 1) := by decide +kernel
theorem dX10_hours_7 : decode cX10_hours 7 = .ok (.lconst 1, 1) := by decide +kernel
theorem dX10_hours_8 : decode cX10_hours 8 = .ok (.ldc2_w 202, 3) := by decide +kernel
theorem dX10_hours_11 : decode cX10_hours 11 = .ok (.invokestatic 84, 3) := by decide +kernel
theorem dX10_hours_14 : decode cX10_hours 14 = .ok (.ifCond .ne 5, 3) := by decide +kernel
theorem dX10_hours_17 : decode cX10_hours 17 = .ok (.iconst (-1), 1) := by decide +kernel
theorem dX10_hours_18 : decode cX10_hours 18 = .ok (.ireturn, 1) := by decide +kernel
theorem dX10_hours_19 : decode cX10_hours 19 = .ok (.aload_n 0, 1) := by decide +kernel
theorem dX10_hours_20 : decode cX10_hours 20 = .ok (.getfield 105, 3) := by decide +kernel
theorem dX10_hours_23 : decode cX10_hours 23 = .ok (.iload_n 1, 1) := by decide +kernel
theorem dX10_hours_24 : decode cX10_hours 24 = .ok (.iadd, 1) := by decide +kernel
theorem dX10_hours_25 : decode cX10_hours 25 = .ok (.sipush 999, 3) := by decide +kernel
theorem dX10_hours_28 : decode cX10_hours 28 = .ok (.if_icmp .le 6, 3) := by decide +kernel
theorem dX10_hours_31 : decode cX10_hours 31 = .ok (.bipush (-3), 2) := by decide +kernel
theorem dX10_hours_33 : decode cX10_hours 33 = .ok (.ireturn, 1) := by decide +kernel
theorem dX10_hours_34 : decode cX10_hours 34 = .ok (.aload_n 0, 1) := by decide +kernel
theorem dX10_hours_35 : decode cX10_hours 35 = .ok (.iload_n 1, 1) := by decide +kernel
theorem dX10_hours_36 : decode cX10_hours 36 = .ok (.invokevirtual 204, 3) := by decide +kernel
theorem dX10_hours_39 : decode cX10_hours 39 = .ok (.aload_n 0, 1) := by decide +kernel
theorem dX10_hours_40 : decode cX10_hours 40 = .ok (.getfield 131, 3) := by decide +kernel
theorem dX10_hours_43 : decode cX10_hours 43 = .ok (.ireturn, 1) := by decide +kernel
theorem dX10_then_0 : decode cX10_then 0 = .ok (.aload_n 0, 1) := by decide +kernel
theorem dX10_then_1 : decode cX10_then 1 = .ok (.iconst 0, 1) := by decide +kernel
theorem dX10_then_2 : decode cX10_then 2 = .ok (.putfield 78, 3) := by decide +kernel
theorem dX10_then_5 : decode cX10_then 5 = .ok (.iload_n 1, 1) := by decide +kernel
theorem dX10_then_6 : decode cX10_then 6 = .ok (.i2l, 1) := by decide +kernel
theorem dX10_then_7 : decode cX10_then 7 = .ok (.lconst 0, 1) := by decide +kernel
theorem dX10_then_8 : decode cX10_then 8 = .ok (.ldc2_w 202, 3) := by decide +kernel
theorem dX10_then_11 : decode cX10_then 11 = .ok (.invokestatic 84, 3) := by decide +kernel
theorem dX10_then_14 : decode cX10_then 14 = .ok (.ifCond .eq 15, 3) := by decide +kernel
theorem dX10_then_17 : decode cX10_then 17 = .ok (.iload_n 2, 1) := by decide +kernel
theorem dX10_then_18 : decode cX10_then 18 = .ok (.i2l, 1) := by decide +kernel
theorem dX10_then_19 : decode cX10_then 19 = .ok (.lconst 0, 1) := by decide +kernel
theorem dX10_then_20 : decode cX10_then 20 = .ok (.ldc2_w 267, 3) := by decide +kernel
theorem dX10_then_23 : decode cX10_then 23 = .ok (.invokestatic 84, 3) := by decide +kernel
theorem dX10_then_26 : decode cX10_then 26 = .ok (.ifCond .ne 5, 3) := by decide +kernel
theorem dX10_then_29 : decode cX10_then 29 = .ok (.iconst (-1), 1) := by decide +kernel
theorem dX10_then_30 : decode cX10_then 30 = .ok (.ireturn, 1) := by decide +kernel
theorem dX10_then_31 : decode cX10_then 31 = .ok (.aload_n 0, 1) := by decide +kernel
theorem dX10_then_32 : decode cX10_then 32 = .ok (.invokevirtual 225, 3) := by decide +kernel
theorem dX10_then_35 : decode cX10_then 35 = .ok (.aload_n 0, 1) := by decide +kernel
theorem dX10_then_36 : decode cX10_then 36 = .ok (.iload_n 1, 1) := by decide +kernel
theorem dX10_then_37 : decode cX10_then 37 = .ok (.invokevirtual 204, 3) := by decide +kernel
theorem dX10_then_40 : decode cX10_then 40 = .ok (.iload_n 2, 1) := by decide +kernel
theorem dX10_then_41 : decode cX10_then 41 = .ok (.ifCond .ne 10, 3) := by decide +kernel
theorem dX10_then_44 : decode cX10_then 44 = .ok (.aload_n 0, 1) := by decide +kernel
theorem dX10_then_45 : decode cX10_then 45 = .ok (.getfield 88, 3) := by decide +kernel
theorem dX10_then_48 : decode cX10_then 48 = .ok (.goto 19, 3) := by decide +kernel
theorem dX10_then_51 : decode cX10_then 51 = .ok (.iload_n 2, 1) := by decide +kernel
theorem dX10_then_52 : decode cX10_then 52 = .ok (.iconst 1, 1) := by decide +kernel
theorem dX10_then_53 : decode cX10_then 53 = .ok (.if_icmp .ne 10, 3) := by decide +kernel
theorem dX10_then_56 : decode cX10_then 56 = .ok (.aload_n 0, 1) := by decide +kernel
theorem dX10_then_57 : decode cX10_then 57 = .ok (.getfield 131, 3) := by decide +kernel
theorem dX10_then_60 : decode cX10_then 60 = .ok (.goto 7, 3) := by decide +kernel
theorem dX10_then_63 : decode cX10_then 63 = .ok (.aload_n 0, 1) := by decide +kernel
theorem dX10_then_64 : decode cX10_then 64 = .ok (.invokevirtual 269, 3) := by decide +kernel
theorem dX10_then_67 : decode cX10_then 67 = .ok (.istore_n 3, 1) := by decide +kernel
theorem dX10_then_68 : decode cX10_then 68 = .ok (.aload_n 0, 1) := by decide +kernel
theorem dX10_then_69 : decode cX10_then 69 = .ok (.invokevirtual 231, 3) := by decide +kernel
theorem dX10_then_72 : decode cX10_then 72 = .ok (.iload_n 3, 1) := by decide +kernel
theorem dX10_then_73 : decode cX10_then 73 = .ok (.ireturn, 1) := by decide +kernel
theorem dX10_wornThen_0 : decode cX10_wornThen 0 = .ok (.aload_n 0, 1) := by decide +kernel
theorem dX10_wornThen_1 : decode cX10_wornThen 1 = .ok (.iconst 0, 1) := by decide +kernel
theorem dX10_wornThen_2 : decode cX10_wornThen 2 = .ok (.putfield 78, 3) := by decide +kernel
theorem dX10_wornThen_5 : decode cX10_wornThen 5 = .ok (.aload_n 0, 1) := by decide +kernel
theorem dX10_wornThen_6 : decode cX10_wornThen 6 = .ok (.iload_n 1, 1) := by decide +kernel
theorem dX10_wornThen_7 : decode cX10_wornThen 7 = .ok (.invokevirtual 193, 3) := by decide +kernel
theorem dX10_wornThen_10 : decode cX10_wornThen 10 = .ok (.ifCond .eq 15, 3) := by decide +kernel
theorem dX10_wornThen_13 : decode cX10_wornThen 13 = .ok (.iload_n 2, 1) := by decide +kernel
theorem dX10_wornThen_14 : decode cX10_wornThen 14 = .ok (.i2l, 1) := by decide +kernel
theorem dX10_wornThen_15 : decode cX10_wornThen 15 = .ok (.lconst 0, 1) := by decide +kernel
theorem dX10_wornThen_16 : decode cX10_wornThen 16 = .ok (.ldc2_w 202, 3) := by decide +kernel
theorem dX10_wornThen_19 : decode cX10_wornThen 19 = .ok (.invokestatic 84, 3) := by decide +kernel
theorem dX10_wornThen_22 : decode cX10_wornThen 22 = .ok (.ifCond .ne 5, 3) := by decide +kernel
theorem dX10_wornThen_25 : decode cX10_wornThen 25 = .ok (.iconst (-1), 1) := by decide +kernel
theorem dX10_wornThen_26 : decode cX10_wornThen 26 = .ok (.ireturn, 1) := by decide +kernel
theorem dX10_wornThen_27 : decode cX10_wornThen 27 = .ok (.aload_n 0, 1) := by decide +kernel
theorem dX10_wornThen_28 : decode cX10_wornThen 28 = .ok (.invokevirtual 225, 3) := by decide +kernel
theorem dX10_wornThen_31 : decode cX10_wornThen 31 = .ok (.aload_n 0, 1) := by decide +kernel
theorem dX10_wornThen_32 : decode cX10_wornThen 32 = .ok (.iload_n 2, 1) := by decide +kernel
theorem dX10_wornThen_33 : decode cX10_wornThen 33 = .ok (.invokevirtual 204, 3) := by decide +kernel
theorem dX10_wornThen_36 : decode cX10_wornThen 36 = .ok (.aload_n 0, 1) := by decide +kernel
theorem dX10_wornThen_37 : decode cX10_wornThen 37 = .ok (.getfield 16, 3) := by decide +kernel
theorem dX10_wornThen_40 : decode cX10_wornThen 40 = .ok (.iload_n 1, 1) := by decide +kernel
theorem dX10_wornThen_41 : decode cX10_wornThen 41 = .ok (.iaload, 1) := by decide +kernel
theorem dX10_wornThen_42 : decode cX10_wornThen 42 = .ok (.istore_n 3, 1) := by decide +kernel
theorem dX10_wornThen_43 : decode cX10_wornThen 43 = .ok (.aload_n 0, 1) := by decide +kernel
theorem dX10_wornThen_44 : decode cX10_wornThen 44 = .ok (.invokevirtual 231, 3) := by decide +kernel
theorem dX10_wornThen_47 : decode cX10_wornThen 47 = .ok (.iload_n 3, 1) := by decide +kernel
theorem dX10_wornThen_48 : decode cX10_wornThen 48 = .ok (.ireturn, 1) := by decide +kernel
theorem dX10_goesIn_0 : decode cX10_goesIn 0 = .ok (.bipush 61, 2) := by decide +kernel
theorem dX10_goesIn_2 : decode cX10_goesIn 2 = .ok (.istore_n 2, 1) := by decide +kernel
theorem dX10_goesIn_3 : decode cX10_goesIn 3 = .ok (.aload_n 0, 1) := by decide +kernel
theorem dX10_goesIn_4 : decode cX10_goesIn 4 = .ok (.invokevirtual 225, 3) := by decide +kernel
theorem dX10_goesIn_7 : decode cX10_goesIn 7 = .ok (.iconst 0, 1) := by decide +kernel
theorem dX10_goesIn_8 : decode cX10_goesIn 8 = .ok (.istore_n 3, 1) := by decide +kernel
theorem dX10_goesIn_9 : decode cX10_goesIn 9 = .ok (.iload_n 3, 1) := by decide +kernel
theorem dX10_goesIn_10 : decode cX10_goesIn 10 = .ok (.bipush 60, 2) := by decide +kernel
theorem dX10_goesIn_12 : decode cX10_goesIn 12 = .ok (.if_icmp .gt 38, 3) := by decide +kernel
theorem dX10_goesIn_15 : decode cX10_goesIn 15 = .ok (.iload_n 2, 1) := by decide +kernel
theorem dX10_goesIn_16 : decode cX10_goesIn 16 = .ok (.bipush 61, 2) := by decide +kernel
theorem dX10_goesIn_18 : decode cX10_goesIn 18 = .ok (.if_icmp .ne 32, 3) := by decide +kernel
theorem dX10_goesIn_21 : decode cX10_goesIn 21 = .ok (.aload_n 0, 1) := by decide +kernel
theorem dX10_goesIn_22 : decode cX10_goesIn 22 = .ok (.getfield 88, 3) := by decide +kernel
theorem dX10_goesIn_25 : decode cX10_goesIn 25 = .ok (.iload_n 1, 1) := by decide +kernel
theorem dX10_goesIn_26 : decode cX10_goesIn 26 = .ok (.invokestatic 91, 3) := by decide +kernel
theorem dX10_goesIn_29 : decode cX10_goesIn 29 = .ok (.ifCond .eq 8, 3) := by decide +kernel
theorem dX10_goesIn_32 : decode cX10_goesIn 32 = .ok (.bipush 61, 2) := by decide +kernel
theorem dX10_goesIn_34 : decode cX10_goesIn 34 = .ok (.goto 4, 3) := by decide +kernel
theorem dX10_goesIn_37 : decode cX10_goesIn 37 = .ok (.iload_n 3, 1) := by decide +kernel
theorem dX10_goesIn_38 : decode cX10_goesIn 38 = .ok (.istore_n 2, 1) := by decide +kernel
theorem dX10_goesIn_39 : decode cX10_goesIn 39 = .ok (.aload_n 0, 1) := by decide +kernel
theorem dX10_goesIn_40 : decode cX10_goesIn 40 = .ok (.invokevirtual 134, 3) := by decide +kernel
theorem dX10_goesIn_43 : decode cX10_goesIn 43 = .ok (.pop, 1) := by decide +kernel
theorem dX10_goesIn_44 : decode cX10_goesIn 44 = .ok (.iinc 3 1, 3) := by decide +kernel
theorem dX10_goesIn_47 : decode cX10_goesIn 47 = .ok (.goto (-38), 3) := by decide +kernel
theorem dX10_goesIn_50 : decode cX10_goesIn 50 = .ok (.aload_n 0, 1) := by decide +kernel
theorem dX10_goesIn_51 : decode cX10_goesIn 51 = .ok (.invokevirtual 231, 3) := by decide +kernel
theorem dX10_goesIn_54 : decode cX10_goesIn 54 = .ok (.iload_n 2, 1) := by decide +kernel
theorem dX10_goesIn_55 : decode cX10_goesIn 55 = .ok (.ireturn, 1) := by decide +kernel
theorem dX10_goes_0 : decode cX10_goes 0 = .ok (.aload_n 0, 1) := by decide +kernel
theorem dX10_goes_1 : decode cX10_goes 1 = .ok (.iconst 0, 1) := by decide +kernel
theorem dX10_goes_2 : decode cX10_goes 2 = .ok (.putfield 78, 3) := by decide +kernel
theorem dX10_goes_5 : decode cX10_goes 5 = .ok (.iload_n 1, 1) := by decide +kernel
theorem dX10_goes_6 : decode cX10_goes 6 = .ok (.i2l, 1) := by decide +kernel
theorem dX10_goes_7 : decode cX10_goes 7 = .ok (.ldc2_w 272, 3) := by decide +kernel
theorem dX10_goes_10 : decode cX10_goes 10 = .ok (.aload_n 0, 1) := by decide +kernel
theorem dX10_goes_11 : decode cX10_goes 11 = .ok (.getfield 81, 3) := by decide +kernel
theorem dX10_goes_14 : decode cX10_goes 14 = .ok (.iconst 1, 1) := by decide +kernel
theorem dX10_goes_15 : decode cX10_goes 15 = .ok (.isub, 1) := by decide +kernel
theorem dX10_goes_16 : decode cX10_goes 16 = .ok (.i2l, 1) := by decide +kernel
theorem dX10_goes_17 : decode cX10_goes 17 = .ok (.invokestatic 84, 3) := by decide +kernel
theorem dX10_goes_20 : decode cX10_goes 20 = .ok (.ifCond .ne 5, 3) := by decide +kernel
theorem dX10_goes_23 : decode cX10_goes 23 = .ok (.iconst (-1), 1) := by decide +kernel
theorem dX10_goes_24 : decode cX10_goes 24 = .ok (.ireturn, 1) := by decide +kernel
theorem dX10_goes_25 : decode cX10_goes 25 = .ok (.iload_n 1, 1) := by decide +kernel
theorem dX10_goes_26 : decode cX10_goes 26 = .ok (.ifCond .lt 22, 3) := by decide +kernel
theorem dX10_goes_29 : decode cX10_goes 29 = .ok (.aload_n 0, 1) := by decide +kernel
theorem dX10_goes_30 : decode cX10_goes 30 = .ok (.iload_n 1, 1) := by decide +kernel
theorem dX10_goes_31 : decode cX10_goes 31 = .ok (.invokevirtual 274, 3) := by decide +kernel
theorem dX10_goes_34 : decode cX10_goes 34 = .ok (.istore_n 2, 1) := by decide +kernel
theorem dX10_goes_35 : decode cX10_goes 35 = .ok (.iload_n 2, 1) := by decide +kernel
theorem dX10_goes_36 : decode cX10_goes 36 = .ok (.bipush 61, 2) := by decide +kernel
theorem dX10_goes_38 : decode cX10_goes 38 = .ok (.if_icmp .ne 8, 3) := by decide +kernel
theorem dX10_goes_41 : decode cX10_goes 41 = .ok (.bipush (-4), 2) := by decide +kernel
theorem dX10_goes_43 : decode cX10_goes 43 = .ok (.goto 4, 3) := by decide +kernel
theorem dX10_goes_46 : decode cX10_goes 46 = .ok (.iload_n 2, 1) := by decide +kernel
theorem dX10_goes_47 : decode cX10_goes 47 = .ok (.ireturn, 1) := by decide +kernel
theorem dX10_goes_48 : decode cX10_goes 48 = .ok (.bipush (-4), 2) := by decide +kernel
theorem dX10_goes_50 : decode cX10_goes 50 = .ok (.istore_n 2, 1) := by decide +kernel
theorem dX10_goes_51 : decode cX10_goes 51 = .ok (.bipush 61, 2) := by decide +kernel
theorem dX10_goes_53 : decode cX10_goes 53 = .ok (.istore_n 3, 1) := by decide +kernel
theorem dX10_goes_54 : decode cX10_goes 54 = .ok (.iconst 0, 1) := by decide +kernel
theorem dX10_goes_55 : decode cX10_goes 55 = .ok (.istore 4, 2) := by decide +kernel
theorem dX10_goes_57 : decode cX10_goes 57 = .ok (.iload 4, 2) := by decide +kernel
theorem dX10_goes_59 : decode cX10_goes 59 = .ok (.aload_n 0, 1) := by decide +kernel
theorem dX10_goes_60 : decode cX10_goes 60 = .ok (.getfield 81, 3) := by decide +kernel
theorem dX10_goes_63 : decode cX10_goes 63 = .ok (.if_icmp .ge 60, 3) := by decide +kernel
theorem dX10_goes_66 : decode cX10_goes 66 = .ok (.aload_n 0, 1) := by decide +kernel
theorem dX10_goes_67 : decode cX10_goes 67 = .ok (.getfield 88, 3) := by decide +kernel
theorem dX10_goes_70 : decode cX10_goes 70 = .ok (.iload 4, 2) := by decide +kernel
theorem dX10_goes_72 : decode cX10_goes 72 = .ok (.invokestatic 91, 3) := by decide +kernel
theorem dX10_goes_75 : decode cX10_goes 75 = .ok (.ifCond .eq 12, 3) := by decide +kernel
theorem dX10_goes_78 : decode cX10_goes 78 = .ok (.aload_n 0, 1) := by decide +kernel
theorem dX10_goes_79 : decode cX10_goes 79 = .ok (.iload 4, 2) := by decide +kernel
theorem dX10_goes_81 : decode cX10_goes 81 = .ok (.invokevirtual 274, 3) := by decide +kernel
theorem dX10_goes_84 : decode cX10_goes 84 = .ok (.goto 5, 3) := by decide +kernel
theorem dX10_goes_87 : decode cX10_goes 87 = .ok (.bipush 61, 2) := by decide +kernel
theorem dX10_goes_89 : decode cX10_goes 89 = .ok (.istore 5, 2) := by decide +kernel
theorem dX10_goes_91 : decode cX10_goes 91 = .ok (.iload 5, 2) := by decide +kernel
theorem dX10_goes_93 : decode cX10_goes 93 = .ok (.iload_n 3, 1) := by decide +kernel
theorem dX10_goes_94 : decode cX10_goes 94 = .ok (.if_icmp .ge 8, 3) := by decide +kernel
theorem dX10_goes_97 : decode cX10_goes 97 = .ok (.iload 4, 2) := by decide +kernel
theorem dX10_goes_99 : decode cX10_goes 99 = .ok (.goto 4, 3) := by decide +kernel
theorem dX10_goes_102 : decode cX10_goes 102 = .ok (.iload_n 2, 1) := by decide +kernel
theorem dX10_goes_103 : decode cX10_goes 103 = .ok (.istore_n 2, 1) := by decide +kernel
theorem dX10_goes_104 : decode cX10_goes 104 = .ok (.iload 5, 2) := by decide +kernel
theorem dX10_goes_106 : decode cX10_goes 106 = .ok (.iload_n 3, 1) := by decide +kernel
theorem dX10_goes_107 : decode cX10_goes 107 = .ok (.if_icmp .ge 8, 3) := by decide +kernel
theorem dX10_goes_110 : decode cX10_goes 110 = .ok (.iload 5, 2) := by decide +kernel
theorem dX10_goes_112 : decode cX10_goes 112 = .ok (.goto 4, 3) := by decide +kernel
theorem dX10_goes_115 : decode cX10_goes 115 = .ok (.iload_n 3, 1) := by decide +kernel
theorem dX10_goes_116 : decode cX10_goes 116 = .ok (.istore_n 3, 1) := by decide +kernel
theorem dX10_goes_117 : decode cX10_goes 117 = .ok (.iinc 4 1, 3) := by decide +kernel
theorem dX10_goes_120 : decode cX10_goes 120 = .ok (.goto (-63), 3) := by decide +kernel
theorem dX10_goes_123 : decode cX10_goes 123 = .ok (.iload_n 2, 1) := by decide +kernel
theorem dX10_goes_124 : decode cX10_goes 124 = .ok (.ireturn, 1) := by decide +kernel
theorem dX10_dark_0 : decode cX10_dark 0 = .ok (.aload_n 0, 1) := by decide +kernel
theorem dX10_dark_1 : decode cX10_dark 1 = .ok (.iconst 0, 1) := by decide +kernel
theorem dX10_dark_2 : decode cX10_dark 2 = .ok (.putfield 78, 3) := by decide +kernel
theorem dX10_dark_5 : decode cX10_dark 5 = .ok (.bipush (-4), 2) := by decide +kernel
theorem dX10_dark_7 : decode cX10_dark 7 = .ok (.istore_n 1, 1) := by decide +kernel
theorem dX10_dark_8 : decode cX10_dark 8 = .ok (.aload_n 0, 1) := by decide +kernel
theorem dX10_dark_9 : decode cX10_dark 9 = .ok (.invokevirtual 225, 3) := by decide +kernel
theorem dX10_dark_12 : decode cX10_dark 12 = .ok (.iconst 1, 1) := by decide +kernel
theorem dX10_dark_13 : decode cX10_dark 13 = .ok (.istore_n 2, 1) := by decide +kernel
theorem dX10_dark_14 : decode cX10_dark 14 = .ok (.iload_n 2, 1) := by decide +kernel
theorem dX10_dark_15 : decode cX10_dark 15 = .ok (.bipush 60, 2) := by decide +kernel
theorem dX10_dark_17 : decode cX10_dark 17 = .ok (.if_icmp .gt 27, 3) := by decide +kernel
theorem dX10_dark_20 : decode cX10_dark 20 = .ok (.iload_n 1, 1) := by decide +kernel
theorem dX10_dark_21 : decode cX10_dark 21 = .ok (.ifCond .ge 23, 3) := by decide +kernel
theorem dX10_dark_24 : decode cX10_dark 24 = .ok (.aload_n 0, 1) := by decide +kernel
theorem dX10_dark_25 : decode cX10_dark 25 = .ok (.invokevirtual 134, 3) := by decide +kernel
theorem dX10_dark_28 : decode cX10_dark 28 = .ok (.ifCond .eq 8, 3) := by decide +kernel
theorem dX10_dark_31 : decode cX10_dark 31 = .ok (.bipush (-4), 2) := by decide +kernel
theorem dX10_dark_33 : decode cX10_dark 33 = .ok (.goto 4, 3) := by decide +kernel
theorem dX10_dark_36 : decode cX10_dark 36 = .ok (.iload_n 2, 1) := by decide +kernel
theorem dX10_dark_37 : decode cX10_dark 37 = .ok (.istore_n 1, 1) := by decide +kernel
theorem dX10_dark_38 : decode cX10_dark 38 = .ok (.iinc 2 1, 3) := by decide +kernel
theorem dX10_dark_41 : decode cX10_dark 41 = .ok (.goto (-27), 3) := by decide +kernel
theorem dX10_dark_44 : decode cX10_dark 44 = .ok (.aload_n 0, 1) := by decide +kernel
theorem dX10_dark_45 : decode cX10_dark 45 = .ok (.invokevirtual 231, 3) := by decide +kernel
theorem dX10_dark_48 : decode cX10_dark 48 = .ok (.iload_n 1, 1) := by decide +kernel
theorem dX10_dark_49 : decode cX10_dark 49 = .ok (.ireturn, 1) := by decide +kernel
theorem dX10_faults_0 : decode cX10_faults 0 = .ok (.iconst 0, 1) := by decide +kernel
theorem dX10_faults_1 : decode cX10_faults 1 = .ok (.istore_n 1, 1) := by decide +kernel
theorem dX10_faults_2 : decode cX10_faults 2 = .ok (.iconst 0, 1) := by decide +kernel
theorem dX10_faults_3 : decode cX10_faults 3 = .ok (.istore_n 2, 1) := by decide +kernel
theorem dX10_faults_4 : decode cX10_faults 4 = .ok (.iload_n 2, 1) := by decide +kernel
theorem dX10_faults_5 : decode cX10_faults 5 = .ok (.aload_n 0, 1) := by decide +kernel
theorem dX10_faults_6 : decode cX10_faults 6 = .ok (.getfield 81, 3) := by decide +kernel
theorem dX10_faults_9 : decode cX10_faults 9 = .ok (.if_icmp .ge 33, 3) := by decide +kernel
theorem dX10_faults_12 : decode cX10_faults 12 = .ok (.iload_n 1, 1) := by decide +kernel
theorem dX10_faults_13 : decode cX10_faults 13 = .ok (.aload_n 0, 1) := by decide +kernel
theorem dX10_faults_14 : decode cX10_faults 14 = .ok (.iload_n 2, 1) := by decide +kernel
theorem dX10_faults_15 : decode cX10_faults 15 = .ok (.aload_n 0, 1) := by decide +kernel
theorem dX10_faults_16 : decode cX10_faults 16 = .ok (.getfield 105, 3) := by decide +kernel
theorem dX10_faults_19 : decode cX10_faults 19 = .ok (.iconst 1, 1) := by decide +kernel
theorem dX10_faults_20 : decode cX10_faults 20 = .ok (.iadd, 1) := by decide +kernel
theorem dX10_faults_21 : decode cX10_faults 21 = .ok (.invokevirtual 102, 3) := by decide +kernel
theorem dX10_faults_24 : decode cX10_faults 24 = .ok (.ifCond .eq 7, 3) := by decide +kernel
theorem dX10_faults_27 : decode cX10_faults 27 = .ok (.iconst 0, 1) := by decide +kernel
theorem dX10_faults_28 : decode cX10_faults 28 = .ok (.goto 6, 3) := by decide +kernel
theorem dX10_faults_31 : decode cX10_faults 31 = .ok (.iconst 1, 1) := by decide +kernel
theorem dX10_faults_32 : decode cX10_faults 32 = .ok (.iload_n 2, 1) := by decide +kernel
theorem dX10_faults_33 : decode cX10_faults 33 = .ok (.ishl, 1) := by decide +kernel
theorem dX10_faults_34 : decode cX10_faults 34 = .ok (.ior, 1) := by decide +kernel
theorem dX10_faults_35 : decode cX10_faults 35 = .ok (.istore_n 1, 1) := by decide +kernel
theorem dX10_faults_36 : decode cX10_faults 36 = .ok (.iinc 2 1, 3) := by decide +kernel
theorem dX10_faults_39 : decode cX10_faults 39 = .ok (.goto (-35), 3) := by decide +kernel
theorem dX10_faults_42 : decode cX10_faults 42 = .ok (.iload_n 1, 1) := by decide +kernel
theorem dX10_faults_43 : decode cX10_faults 43 = .ok (.ireturn, 1) := by decide +kernel
theorem dX10_browns_0 : decode cX10_browns 0 = .ok (.iconst 0, 1) := by decide +kernel
theorem dX10_browns_1 : decode cX10_browns 1 = .ok (.istore_n 1, 1) := by decide +kernel
theorem dX10_browns_2 : decode cX10_browns 2 = .ok (.iconst 0, 1) := by decide +kernel
theorem dX10_browns_3 : decode cX10_browns 3 = .ok (.istore_n 2, 1) := by decide +kernel
theorem dX10_browns_4 : decode cX10_browns 4 = .ok (.iload_n 2, 1) := by decide +kernel
theorem dX10_browns_5 : decode cX10_browns 5 = .ok (.aload_n 0, 1) := by decide +kernel
theorem dX10_browns_6 : decode cX10_browns 6 = .ok (.getfield 81, 3) := by decide +kernel
theorem dX10_browns_9 : decode cX10_browns 9 = .ok (.if_icmp .ge 27, 3) := by decide +kernel
theorem dX10_browns_12 : decode cX10_browns 12 = .ok (.iload_n 1, 1) := by decide +kernel
theorem dX10_browns_13 : decode cX10_browns 13 = .ok (.aload_n 0, 1) := by decide +kernel
theorem dX10_browns_14 : decode cX10_browns 14 = .ok (.iload_n 2, 1) := by decide +kernel
theorem dX10_browns_15 : decode cX10_browns 15 = .ok (.invokevirtual 138, 3) := by decide +kernel
theorem dX10_browns_18 : decode cX10_browns 18 = .ok (.ifCond .eq 9, 3) := by decide +kernel
theorem dX10_browns_21 : decode cX10_browns 21 = .ok (.iconst 1, 1) := by decide +kernel
theorem dX10_browns_22 : decode cX10_browns 22 = .ok (.iload_n 2, 1) := by decide +kernel
theorem dX10_browns_23 : decode cX10_browns 23 = .ok (.ishl, 1) := by decide +kernel
theorem dX10_browns_24 : decode cX10_browns 24 = .ok (.goto 4, 3) := by decide +kernel
theorem dX10_browns_27 : decode cX10_browns 27 = .ok (.iconst 0, 1) := by decide +kernel
theorem dX10_browns_28 : decode cX10_browns 28 = .ok (.ior, 1) := by decide +kernel
theorem dX10_browns_29 : decode cX10_browns 29 = .ok (.istore_n 1, 1) := by decide +kernel
theorem dX10_browns_30 : decode cX10_browns 30 = .ok (.iinc 2 1, 3) := by decide +kernel
theorem dX10_browns_33 : decode cX10_browns 33 = .ok (.goto (-29), 3) := by decide +kernel
theorem dX10_browns_36 : decode cX10_browns 36 = .ok (.iload_n 1, 1) := by decide +kernel
theorem dX10_browns_37 : decode cX10_browns 37 = .ok (.ireturn, 1) := by decide +kernel
theorem dX10_longest_0 : decode cX10_longest 0 = .ok (.iconst 0, 1) := by decide +kernel
theorem dX10_longest_1 : decode cX10_longest 1 = .ok (.istore_n 1, 1) := by decide +kernel
theorem dX10_longest_2 : decode cX10_longest 2 = .ok (.iconst 0, 1) := by decide +kernel
theorem dX10_longest_3 : decode cX10_longest 3 = .ok (.istore_n 2, 1) := by decide +kernel
theorem dX10_longest_4 : decode cX10_longest 4 = .ok (.aload_n 0, 1) := by decide +kernel
theorem dX10_longest_5 : decode cX10_longest 5 = .ok (.invokevirtual 225, 3) := by decide +kernel
theorem dX10_longest_8 : decode cX10_longest 8 = .ok (.iconst 0, 1) := by decide +kernel
theorem dX10_longest_9 : decode cX10_longest 9 = .ok (.istore_n 3, 1) := by decide +kernel
theorem dX10_longest_10 : decode cX10_longest 10 = .ok (.iload_n 3, 1) := by decide +kernel
theorem dX10_longest_11 : decode cX10_longest 11 = .ok (.bipush 60, 2) := by decide +kernel
theorem dX10_longest_13 : decode cX10_longest 13 = .ok (.if_icmp .ge 35, 3) := by decide +kernel
theorem dX10_longest_16 : decode cX10_longest 16 = .ok (.aload_n 0, 1) := by decide +kernel
theorem dX10_longest_17 : decode cX10_longest 17 = .ok (.invokevirtual 134, 3) := by decide +kernel
theorem dX10_longest_20 : decode cX10_longest 20 = .ok (.ifCond .eq 9, 3) := by decide +kernel
theorem dX10_longest_23 : decode cX10_longest 23 = .ok (.iload_n 2, 1) := by decide +kernel
theorem dX10_longest_24 : decode cX10_longest 24 = .ok (.iconst 1, 1) := by decide +kernel
theorem dX10_longest_25 : decode cX10_longest 25 = .ok (.iadd, 1) := by decide +kernel
theorem dX10_longest_26 : decode cX10_longest 26 = .ok (.goto 4, 3) := by decide +kernel
theorem dX10_longest_29 : decode cX10_longest 29 = .ok (.iconst 0, 1) := by decide +kernel
theorem dX10_longest_30 : decode cX10_longest 30 = .ok (.istore_n 2, 1) := by decide +kernel
theorem dX10_longest_31 : decode cX10_longest 31 = .ok (.iload_n 2, 1) := by decide +kernel
theorem dX10_longest_32 : decode cX10_longest 32 = .ok (.iload_n 1, 1) := by decide +kernel
theorem dX10_longest_33 : decode cX10_longest 33 = .ok (.if_icmp .le 7, 3) := by decide +kernel
theorem dX10_longest_36 : decode cX10_longest 36 = .ok (.iload_n 2, 1) := by decide +kernel
theorem dX10_longest_37 : decode cX10_longest 37 = .ok (.goto 4, 3) := by decide +kernel
theorem dX10_longest_40 : decode cX10_longest 40 = .ok (.iload_n 1, 1) := by decide +kernel
theorem dX10_longest_41 : decode cX10_longest 41 = .ok (.istore_n 1, 1) := by decide +kernel
theorem dX10_longest_42 : decode cX10_longest 42 = .ok (.iinc 3 1, 3) := by decide +kernel
theorem dX10_longest_45 : decode cX10_longest 45 = .ok (.goto (-35), 3) := by decide +kernel
theorem dX10_longest_48 : decode cX10_longest 48 = .ok (.aload_n 0, 1) := by decide +kernel
theorem dX10_longest_49 : decode cX10_longest 49 = .ok (.invokevirtual 231, 3) := by decide +kernel
theorem dX10_longest_52 : decode cX10_longest 52 = .ok (.iload_n 1, 1) := by decide +kernel
theorem dX10_longest_53 : decode cX10_longest 53 = .ok (.ireturn, 1) := by decide +kernel
theorem dX10_weakest_0 : decode cX10_weakest 0 = .ok (.bipush (-4), 2) := by decide +kernel
theorem dX10_weakest_2 : decode cX10_weakest 2 = .ok (.istore_n 1, 1) := by decide +kernel
theorem dX10_weakest_3 : decode cX10_weakest 3 = .ok (.iconst 0, 1) := by decide +kernel
theorem dX10_weakest_4 : decode cX10_weakest 4 = .ok (.istore_n 2, 1) := by decide +kernel
theorem dX10_weakest_5 : decode cX10_weakest 5 = .ok (.iload_n 2, 1) := by decide +kernel
theorem dX10_weakest_6 : decode cX10_weakest 6 = .ok (.aload_n 0, 1) := by decide +kernel
theorem dX10_weakest_7 : decode cX10_weakest 7 = .ok (.getfield 81, 3) := by decide +kernel
theorem dX10_weakest_10 : decode cX10_weakest 10 = .ok (.if_icmp .ge 57, 3) := by decide +kernel
theorem dX10_weakest_13 : decode cX10_weakest 13 = .ok (.aload_n 0, 1) := by decide +kernel
theorem dX10_weakest_14 : decode cX10_weakest 14 = .ok (.getfield 88, 3) := by decide +kernel
theorem dX10_weakest_17 : decode cX10_weakest 17 = .ok (.iload_n 2, 1) := by decide +kernel
theorem dX10_weakest_18 : decode cX10_weakest 18 = .ok (.invokestatic 91, 3) := by decide +kernel
theorem dX10_weakest_21 : decode cX10_weakest 21 = .ok (.ifCond .eq 38, 3) := by decide +kernel
theorem dX10_weakest_24 : decode cX10_weakest 24 = .ok (.iload_n 1, 1) := by decide +kernel
theorem dX10_weakest_25 : decode cX10_weakest 25 = .ok (.ifCond .lt 30, 3) := by decide +kernel
theorem dX10_weakest_28 : decode cX10_weakest 28 = .ok (.aload_n 0, 1) := by decide +kernel
theorem dX10_weakest_29 : decode cX10_weakest 29 = .ok (.iload_n 2, 1) := by decide +kernel
theorem dX10_weakest_30 : decode cX10_weakest 30 = .ok (.invokevirtual 98, 3) := by decide +kernel
theorem dX10_weakest_33 : decode cX10_weakest 33 = .ok (.aload_n 0, 1) := by decide +kernel
theorem dX10_weakest_34 : decode cX10_weakest 34 = .ok (.getfield 16, 3) := by decide +kernel
theorem dX10_weakest_37 : decode cX10_weakest 37 = .ok (.iload_n 2, 1) := by decide +kernel
theorem dX10_weakest_38 : decode cX10_weakest 38 = .ok (.iaload, 1) := by decide +kernel
theorem dX10_weakest_39 : decode cX10_weakest 39 = .ok (.isub, 1) := by decide +kernel
theorem dX10_weakest_40 : decode cX10_weakest 40 = .ok (.aload_n 0, 1) := by decide +kernel
theorem dX10_weakest_41 : decode cX10_weakest 41 = .ok (.iload_n 1, 1) := by decide +kernel
theorem dX10_weakest_42 : decode cX10_weakest 42 = .ok (.invokevirtual 98, 3) := by decide +kernel
theorem dX10_weakest_45 : decode cX10_weakest 45 = .ok (.aload_n 0, 1) := by decide +kernel
theorem dX10_weakest_46 : decode cX10_weakest 46 = .ok (.getfield 16, 3) := by decide +kernel
theorem dX10_weakest_49 : decode cX10_weakest 49 = .ok (.iload_n 1, 1) := by decide +kernel
theorem dX10_weakest_50 : decode cX10_weakest 50 = .ok (.iaload, 1) := by decide +kernel
theorem dX10_weakest_51 : decode cX10_weakest 51 = .ok (.isub, 1) := by decide +kernel
theorem dX10_weakest_52 : decode cX10_weakest 52 = .ok (.if_icmp .ge 7, 3) := by decide +kernel
theorem dX10_weakest_55 : decode cX10_weakest 55 = .ok (.iload_n 2, 1) := by decide +kernel
theorem dX10_weakest_56 : decode cX10_weakest 56 = .ok (.goto 4, 3) := by decide +kernel
theorem dX10_weakest_59 : decode cX10_weakest 59 = .ok (.iload_n 1, 1) := by decide +kernel
theorem dX10_weakest_60 : decode cX10_weakest 60 = .ok (.istore_n 1, 1) := by decide +kernel
theorem dX10_weakest_61 : decode cX10_weakest 61 = .ok (.iinc 2 1, 3) := by decide +kernel
theorem dX10_weakest_64 : decode cX10_weakest 64 = .ok (.goto (-59), 3) := by decide +kernel
theorem dX10_weakest_67 : decode cX10_weakest 67 = .ok (.iload_n 1, 1) := by decide +kernel
theorem dX10_weakest_68 : decode cX10_weakest 68 = .ok (.ireturn, 1) := by decide +kernel
theorem dX10_lights_0 : decode cX10_lights 0 = .ok (.aload_n 0, 1) := by decide +kernel
theorem dX10_lights_1 : decode cX10_lights 1 = .ok (.iconst 0, 1) := by decide +kernel
theorem dX10_lights_2 : decode cX10_lights 2 = .ok (.putfield 78, 3) := by decide +kernel
theorem dX10_lights_5 : decode cX10_lights 5 = .ok (.iload_n 1, 1) := by decide +kernel
theorem dX10_lights_6 : decode cX10_lights 6 = .ok (.tableswitch 74 0 4 #[34, 54, 59, 64, 69], 34) := by decide +kernel
theorem dX10_lights_40 : decode cX10_lights 40 = .ok (.aload_n 0, 1) := by decide +kernel
theorem dX10_lights_41 : decode cX10_lights 41 = .ok (.getfield 81, 3) := by decide +kernel
theorem dX10_lights_44 : decode cX10_lights 44 = .ok (.ifCond .le 14, 3) := by decide +kernel
theorem dX10_lights_47 : decode cX10_lights 47 = .ok (.aload_n 0, 1) := by decide +kernel
theorem dX10_lights_48 : decode cX10_lights 48 = .ok (.invokevirtual 277, 3) := by decide +kernel
theorem dX10_lights_51 : decode cX10_lights 51 = .ok (.ifCond .ne 7, 3) := by decide +kernel
theorem dX10_lights_54 : decode cX10_lights 54 = .ok (.iconst 1, 1) := by decide +kernel
theorem dX10_lights_55 : decode cX10_lights 55 = .ok (.goto 4, 3) := by decide +kernel
theorem dX10_lights_58 : decode cX10_lights 58 = .ok (.iconst 0, 1) := by decide +kernel
theorem dX10_lights_59 : decode cX10_lights 59 = .ok (.ireturn, 1) := by decide +kernel
theorem dX10_lights_60 : decode cX10_lights 60 = .ok (.aload_n 0, 1) := by decide +kernel
theorem dX10_lights_61 : decode cX10_lights 61 = .ok (.invokevirtual 277, 3) := by decide +kernel
theorem dX10_lights_64 : decode cX10_lights 64 = .ok (.ireturn, 1) := by decide +kernel
theorem dX10_lights_65 : decode cX10_lights 65 = .ok (.aload_n 0, 1) := by decide +kernel
theorem dX10_lights_66 : decode cX10_lights 66 = .ok (.invokevirtual 280, 3) := by decide +kernel
theorem dX10_lights_69 : decode cX10_lights 69 = .ok (.ireturn, 1) := by decide +kernel
theorem dX10_lights_70 : decode cX10_lights 70 = .ok (.aload_n 0, 1) := by decide +kernel
theorem dX10_lights_71 : decode cX10_lights 71 = .ok (.invokevirtual 283, 3) := by decide +kernel
theorem dX10_lights_74 : decode cX10_lights 74 = .ok (.ireturn, 1) := by decide +kernel
theorem dX10_lights_75 : decode cX10_lights 75 = .ok (.aload_n 0, 1) := by decide +kernel
theorem dX10_lights_76 : decode cX10_lights 76 = .ok (.invokevirtual 286, 3) := by decide +kernel
theorem dX10_lights_79 : decode cX10_lights 79 = .ok (.ireturn, 1) := by decide +kernel
theorem dX10_lights_80 : decode cX10_lights 80 = .ok (.iconst (-1), 1) := by decide +kernel
theorem dX10_lights_81 : decode cX10_lights 81 = .ok (.ireturn, 1) := by decide +kernel
theorem dX10_tool_0 : decode cX10_tool 0 = .ok (.aload_n 0, 1) := by decide +kernel
theorem dX10_tool_1 : decode cX10_tool 1 = .ok (.iconst 0, 1) := by decide +kernel
theorem dX10_tool_2 : decode cX10_tool 2 = .ok (.putfield 78, 3) := by decide +kernel
theorem dX10_tool_5 : decode cX10_tool 5 = .ok (.aload_n 0, 1) := by decide +kernel
theorem dX10_tool_6 : decode cX10_tool 6 = .ok (.iload_n 1, 1) := by decide +kernel
theorem dX10_tool_7 : decode cX10_tool 7 = .ok (.iload_n 2, 1) := by decide +kernel
theorem dX10_tool_8 : decode cX10_tool 8 = .ok (.iload_n 3, 1) := by decide +kernel
theorem dX10_tool_9 : decode cX10_tool 9 = .ok (.invokevirtual 264, 3) := by decide +kernel
theorem dX10_tool_12 : decode cX10_tool 12 = .ok (.ifCond .eq 16, 3) := by decide +kernel
theorem dX10_tool_15 : decode cX10_tool 15 = .ok (.iload 4, 2) := by decide +kernel
theorem dX10_tool_17 : decode cX10_tool 17 = .ok (.i2l, 1) := by decide +kernel
theorem dX10_tool_18 : decode cX10_tool 18 = .ok (.lconst 0, 1) := by decide +kernel
theorem dX10_tool_19 : decode cX10_tool 19 = .ok (.ldc2_w 267, 3) := by decide +kernel
theorem dX10_tool_22 : decode cX10_tool 22 = .ok (.invokestatic 84, 3) := by decide +kernel
theorem dX10_tool_25 : decode cX10_tool 25 = .ok (.ifCond .ne 5, 3) := by decide +kernel
theorem dX10_tool_28 : decode cX10_tool 28 = .ok (.iconst (-1), 1) := by decide +kernel
theorem dX10_tool_29 : decode cX10_tool 29 = .ok (.ireturn, 1) := by decide +kernel
theorem dX10_tool_30 : decode cX10_tool 30 = .ok (.iload_n 1, 1) := by decide +kernel
theorem dX10_tool_31 : decode cX10_tool 31 = .ok (.iload_n 2, 1) := by decide +kernel
theorem dX10_tool_32 : decode cX10_tool 32 = .ok (.iload_n 3, 1) := by decide +kernel
theorem dX10_tool_33 : decode cX10_tool 33 = .ok (.invokestatic 145, 3) := by decide +kernel
theorem dX10_tool_36 : decode cX10_tool 36 = .ok (.aload_n 0, 1) := by decide +kernel
theorem dX10_tool_37 : decode cX10_tool 37 = .ok (.getfield 149, 3) := by decide +kernel
theorem dX10_tool_40 : decode cX10_tool 40 = .ok (.iload_n 2, 1) := by decide +kernel
theorem dX10_tool_41 : decode cX10_tool 41 = .ok (.invokestatic 152, 3) := by decide +kernel
theorem dX10_tool_44 : decode cX10_tool 44 = .ok (.iadd, 1) := by decide +kernel
theorem dX10_tool_45 : decode cX10_tool 45 = .ok (.istore 5, 2) := by decide +kernel
theorem dX10_tool_47 : decode cX10_tool 47 = .ok (.aload_n 0, 1) := by decide +kernel
theorem dX10_tool_48 : decode cX10_tool 48 = .ok (.invokevirtual 225, 3) := by decide +kernel
theorem dX10_tool_51 : decode cX10_tool 51 = .ok (.aload_n 0, 1) := by decide +kernel
theorem dX10_tool_52 : decode cX10_tool 52 = .ok (.iload_n 1, 1) := by decide +kernel
theorem dX10_tool_53 : decode cX10_tool 53 = .ok (.iload_n 2, 1) := by decide +kernel
theorem dX10_tool_54 : decode cX10_tool 54 = .ok (.iload_n 3, 1) := by decide +kernel
theorem dX10_tool_55 : decode cX10_tool 55 = .ok (.invokevirtual 199, 3) := by decide +kernel
theorem dX10_tool_58 : decode cX10_tool 58 = .ok (.istore 6, 2) := by decide +kernel
theorem dX10_tool_60 : decode cX10_tool 60 = .ok (.aload_n 0, 1) := by decide +kernel
theorem dX10_tool_61 : decode cX10_tool 61 = .ok (.getfield 149, 3) := by decide +kernel
theorem dX10_tool_64 : decode cX10_tool 64 = .ok (.istore 7, 2) := by decide +kernel
theorem dX10_tool_66 : decode cX10_tool 66 = .ok (.aload_n 0, 1) := by decide +kernel
theorem dX10_tool_67 : decode cX10_tool 67 = .ok (.invokevirtual 231, 3) := by decide +kernel
theorem dX10_tool_70 : decode cX10_tool 70 = .ok (.iload 4, 2) := by decide +kernel
theorem dX10_tool_72 : decode cX10_tool 72 = .ok (.ifCond .ne 8, 3) := by decide +kernel
theorem dX10_tool_75 : decode cX10_tool 75 = .ok (.iload 6, 2) := by decide +kernel
theorem dX10_tool_77 : decode cX10_tool 77 = .ok (.goto 16, 3) := by decide +kernel
theorem dX10_tool_80 : decode cX10_tool 80 = .ok (.iload 4, 2) := by decide +kernel
theorem dX10_tool_82 : decode cX10_tool 82 = .ok (.iconst 1, 1) := by decide +kernel
theorem dX10_tool_83 : decode cX10_tool 83 = .ok (.if_icmp .ne 8, 3) := by decide +kernel
theorem dX10_tool_86 : decode cX10_tool 86 = .ok (.iload 5, 2) := by decide +kernel
theorem dX10_tool_88 : decode cX10_tool 88 = .ok (.goto 5, 3) := by decide +kernel
theorem dX10_tool_91 : decode cX10_tool 91 = .ok (.iload 7, 2) := by decide +kernel
theorem dX10_tool_93 : decode cX10_tool 93 = .ok (.ireturn, 1) := by decide +kernel
theorem dX10_oddsOf_0 : decode cX10_oddsOf 0 = .ok (.iconst 0, 1) := by decide +kernel
theorem dX10_oddsOf_1 : decode cX10_oddsOf 1 = .ok (.istore_n 3, 1) := by decide +kernel
theorem dX10_oddsOf_2 : decode cX10_oddsOf 2 = .ok (.iload_n 1, 1) := by decide +kernel
theorem dX10_oddsOf_3 : decode cX10_oddsOf 3 = .ok (.istore 4, 2) := by decide +kernel
theorem dX10_oddsOf_5 : decode cX10_oddsOf 5 = .ok (.iload 4, 2) := by decide +kernel
theorem dX10_oddsOf_7 : decode cX10_oddsOf 7 = .ok (.iload_n 2, 1) := by decide +kernel
theorem dX10_oddsOf_8 : decode cX10_oddsOf 8 = .ok (.if_icmp .gt 21, 3) := by decide +kernel
theorem dX10_oddsOf_11 : decode cX10_oddsOf 11 = .ok (.iload_n 3, 1) := by decide +kernel
theorem dX10_oddsOf_12 : decode cX10_oddsOf 12 = .ok (.aload_n 0, 1) := by decide +kernel
theorem dX10_oddsOf_13 : decode cX10_oddsOf 13 = .ok (.getfield 16, 3) := by decide +kernel
theorem dX10_oddsOf_16 : decode cX10_oddsOf 16 = .ok (.iload 4, 2) := by decide +kernel
theorem dX10_oddsOf_18 : decode cX10_oddsOf 18 = .ok (.iaload, 1) := by decide +kernel
theorem dX10_oddsOf_19 : decode cX10_oddsOf 19 = .ok (.iconst 1, 1) := by decide +kernel
theorem dX10_oddsOf_20 : decode cX10_oddsOf 20 = .ok (.iadd, 1) := by decide +kernel
theorem dX10_oddsOf_21 : decode cX10_oddsOf 21 = .ok (.iadd, 1) := by decide +kernel
theorem dX10_oddsOf_22 : decode cX10_oddsOf 22 = .ok (.istore_n 3, 1) := by decide +kernel
theorem dX10_oddsOf_23 : decode cX10_oddsOf 23 = .ok (.iinc 4 1, 3) := by decide +kernel
theorem dX10_oddsOf_26 : decode cX10_oddsOf 26 = .ok (.goto (-21), 3) := by decide +kernel
theorem dX10_oddsOf_29 : decode cX10_oddsOf 29 = .ok (.iload_n 3, 1) := by decide +kernel
theorem dX10_oddsOf_30 : decode cX10_oddsOf 30 = .ok (.ireturn, 1) := by decide +kernel
theorem dX10_layStretch_0 : decode cX10_layStretch 0 = .ok (.bipush (-4), 2) := by decide +kernel
theorem dX10_layStretch_2 : decode cX10_layStretch 2 = .ok (.istore_n 3, 1) := by decide +kernel
theorem dX10_layStretch_3 : decode cX10_layStretch 3 = .ok (.iconst 0, 1) := by decide +kernel
theorem dX10_layStretch_4 : decode cX10_layStretch 4 = .ok (.istore 4, 2) := by decide +kernel
theorem dX10_layStretch_6 : decode cX10_layStretch 6 = .ok (.lconst 0, 1) := by decide +kernel
theorem dX10_layStretch_7 : decode cX10_layStretch 7 = .ok (.lstore 5, 2) := by decide +kernel
theorem dX10_layStretch_9 : decode cX10_layStretch 9 = .ok (.iload_n 1, 1) := by decide +kernel
theorem dX10_layStretch_10 : decode cX10_layStretch 10 = .ok (.istore 7, 2) := by decide +kernel
theorem dX10_layStretch_12 : decode cX10_layStretch 12 = .ok (.iload 7, 2) := by decide +kernel
theorem dX10_layStretch_14 : decode cX10_layStretch 14 = .ok (.iload_n 2, 1) := by decide +kernel
theorem dX10_layStretch_15 : decode cX10_layStretch 15 = .ok (.if_icmp .ge 202, 3) := by decide +kernel
theorem dX10_layStretch_18 : decode cX10_layStretch 18 = .ok (.aload_n 0, 1) := by decide +kernel
theorem dX10_layStretch_19 : decode cX10_layStretch 19 = .ok (.getfield 60, 3) := by decide +kernel
theorem dX10_layStretch_22 : decode cX10_layStretch 22 = .ok (.bipush 10, 2) := by decide +kernel
theorem dX10_layStretch_24 : decode cX10_layStretch 24 = .ok (.iload_n 1, 1) := by decide +kernel
theorem dX10_layStretch_25 : decode cX10_layStretch 25 = .ok (.imul, 1) := by decide +kernel
theorem dX10_layStretch_26 : decode cX10_layStretch 26 = .ok (.iload 7, 2) := by decide +kernel
theorem dX10_layStretch_28 : decode cX10_layStretch 28 = .ok (.iadd, 1) := by decide +kernel
theorem dX10_layStretch_29 : decode cX10_layStretch 29 = .ok (.iaload, 1) := by decide +kernel
theorem dX10_layStretch_30 : decode cX10_layStretch 30 = .ok (.istore 8, 2) := by decide +kernel
theorem dX10_layStretch_32 : decode cX10_layStretch 32 = .ok (.aload_n 0, 1) := by decide +kernel
theorem dX10_layStretch_33 : decode cX10_layStretch 33 = .ok (.getfield 60, 3) := by decide +kernel
theorem dX10_layStretch_36 : decode cX10_layStretch 36 = .ok (.bipush 10, 2) := by decide +kernel
theorem dX10_layStretch_38 : decode cX10_layStretch 38 = .ok (.iload 7, 2) := by decide +kernel
theorem dX10_layStretch_40 : decode cX10_layStretch 40 = .ok (.imul, 1) := by decide +kernel
theorem dX10_layStretch_41 : decode cX10_layStretch 41 = .ok (.bipush 10, 2) := by decide +kernel
theorem dX10_layStretch_43 : decode cX10_layStretch 43 = .ok (.iadd, 1) := by decide +kernel
theorem dX10_layStretch_44 : decode cX10_layStretch 44 = .ok (.iload_n 2, 1) := by decide +kernel
theorem dX10_layStretch_45 : decode cX10_layStretch 45 = .ok (.iadd, 1) := by decide +kernel
theorem dX10_layStretch_46 : decode cX10_layStretch 46 = .ok (.iaload, 1) := by decide +kernel
theorem dX10_layStretch_47 : decode cX10_layStretch 47 = .ok (.istore 9, 2) := by decide +kernel
theorem dX10_layStretch_49 : decode cX10_layStretch 49 = .ok (.bipush 6, 2) := by decide +kernel
theorem dX10_layStretch_51 : decode cX10_layStretch 51 = .ok (.iconst 2, 1) := by decide +kernel
theorem dX10_layStretch_52 : decode cX10_layStretch 52 = .ok (.iload 7, 2) := by decide +kernel
theorem dX10_layStretch_54 : decode cX10_layStretch 54 = .ok (.iload_n 1, 1) := by decide +kernel
theorem dX10_layStretch_55 : decode cX10_layStretch 55 = .ok (.isub, 1) := by decide +kernel
theorem dX10_layStretch_56 : decode cX10_layStretch 56 = .ok (.imul, 1) := by decide +kernel
theorem dX10_layStretch_57 : decode cX10_layStretch 57 = .ok (.iadd, 1) := by decide +kernel
theorem dX10_layStretch_58 : decode cX10_layStretch 58 = .ok (.istore 10, 2) := by decide +kernel
theorem dX10_layStretch_60 : decode cX10_layStretch 60 = .ok (.iload 10, 2) := by decide +kernel
theorem dX10_layStretch_62 : decode cX10_layStretch 62 = .ok (.iload 8, 2) := by decide +kernel
theorem dX10_layStretch_64 : decode cX10_layStretch 64 = .ok (.iload 9, 2) := by decide +kernel
theorem dX10_layStretch_66 : decode cX10_layStretch 66 = .ok (.if_icmp .le 8, 3) := by decide +kernel
theorem dX10_layStretch_69 : decode cX10_layStretch 69 = .ok (.iload 8, 2) := by decide +kernel
theorem dX10_layStretch_71 : decode cX10_layStretch 71 = .ok (.goto 5, 3) := by decide +kernel
theorem dX10_layStretch_74 : decode cX10_layStretch 74 = .ok (.iload 9, 2) := by decide +kernel
theorem dX10_layStretch_76 : decode cX10_layStretch 76 = .ok (.iadd, 1) := by decide +kernel
theorem dX10_layStretch_77 : decode cX10_layStretch 77 = .ok (.istore 11, 2) := by decide +kernel
theorem dX10_layStretch_79 : decode cX10_layStretch 79 = .ok (.iload 10, 2) := by decide +kernel
theorem dX10_layStretch_81 : decode cX10_layStretch 81 = .ok (.i2l, 1) := by decide +kernel
theorem dX10_layStretch_82 : decode cX10_layStretch 82 = .ok (.aload_n 0, 1) := by decide +kernel
theorem dX10_layStretch_83 : decode cX10_layStretch 83 = .ok (.iload_n 1, 1) := by decide +kernel
theorem dX10_layStretch_84 : decode cX10_layStretch 84 = .ok (.iload_n 2, 1) := by decide +kernel
theorem dX10_layStretch_85 : decode cX10_layStretch 85 = .ok (.invokevirtual 289, 3) := by decide +kernel
theorem dX10_layStretch_88 : decode cX10_layStretch 88 = .ok (.i2l, 1) := by decide +kernel
theorem dX10_layStretch_89 : decode cX10_layStretch 89 = .ok (.lmul, 1) := by decide +kernel
theorem dX10_layStretch_90 : decode cX10_layStretch 90 = .ok (.aload_n 0, 1) := by decide +kernel
theorem dX10_layStretch_91 : decode cX10_layStretch 91 = .ok (.getfield 66, 3) := by decide +kernel
theorem dX10_layStretch_94 : decode cX10_layStretch 94 = .ok (.bipush 10, 2) := by decide +kernel
theorem dX10_layStretch_96 : decode cX10_layStretch 96 = .ok (.iload_n 1, 1) := by decide +kernel
theorem dX10_layStretch_97 : decode cX10_layStretch 97 = .ok (.imul, 1) := by decide +kernel
theorem dX10_layStretch_98 : decode cX10_layStretch 98 = .ok (.iload 7, 2) := by decide +kernel
theorem dX10_layStretch_100 : decode cX10_layStretch 100 = .ok (.iadd, 1) := by decide +kernel
theorem dX10_layStretch_101 : decode cX10_layStretch 101 = .ok (.laload, 1) := by decide +kernel
theorem dX10_layStretch_102 : decode cX10_layStretch 102 = .ok (.ladd, 1) := by decide +kernel
theorem dX10_layStretch_103 : decode cX10_layStretch 103 = .ok (.aload_n 0, 1) := by decide +kernel
theorem dX10_layStretch_104 : decode cX10_layStretch 104 = .ok (.getfield 66, 3) := by decide +kernel
theorem dX10_layStretch_107 : decode cX10_layStretch 107 = .ok (.bipush 10, 2) := by decide +kernel
theorem dX10_layStretch_109 : decode cX10_layStretch 109 = .ok (.iload 7, 2) := by decide +kernel
theorem dX10_layStretch_111 : decode cX10_layStretch 111 = .ok (.imul, 1) := by decide +kernel
theorem dX10_layStretch_112 : decode cX10_layStretch 112 = .ok (.bipush 10, 2) := by decide +kernel
theorem dX10_layStretch_114 : decode cX10_layStretch 114 = .ok (.iadd, 1) := by decide +kernel
theorem dX10_layStretch_115 : decode cX10_layStretch 115 = .ok (.iload_n 2, 1) := by decide +kernel
theorem dX10_layStretch_116 : decode cX10_layStretch 116 = .ok (.iadd, 1) := by decide +kernel
theorem dX10_layStretch_117 : decode cX10_layStretch 117 = .ok (.laload, 1) := by decide +kernel
theorem dX10_layStretch_118 : decode cX10_layStretch 118 = .ok (.ladd, 1) := by decide +kernel
theorem dX10_layStretch_119 : decode cX10_layStretch 119 = .ok (.lstore 12, 2) := by decide +kernel
theorem dX10_layStretch_121 : decode cX10_layStretch 121 = .ok (.iload 7, 2) := by decide +kernel
theorem dX10_layStretch_123 : decode cX10_layStretch 123 = .ok (.iload_n 1, 1) := by decide +kernel
theorem dX10_layStretch_124 : decode cX10_layStretch 124 = .ok (.if_icmp .eq 11, 3) := by decide +kernel
theorem dX10_layStretch_127 : decode cX10_layStretch 127 = .ok (.lload 12, 2) := by decide +kernel
theorem dX10_layStretch_129 : decode cX10_layStretch 129 = .ok (.lload 5, 2) := by decide +kernel
theorem dX10_layStretch_131 : decode cX10_layStretch 131 = .ok (.lcmp, 1) := by decide +kernel
theorem dX10_layStretch_132 : decode cX10_layStretch 132 = .ok (.ifCond .ge 8, 3) := by decide +kernel
theorem dX10_layStretch_135 : decode cX10_layStretch 135 = .ok (.lload 12, 2) := by decide +kernel
theorem dX10_layStretch_137 : decode cX10_layStretch 137 = .ok (.goto 5, 3) := by decide +kernel
theorem dX10_layStretch_140 : decode cX10_layStretch 140 = .ok (.lload 5, 2) := by decide +kernel
theorem dX10_layStretch_142 : decode cX10_layStretch 142 = .ok (.lstore 5, 2) := by decide +kernel
theorem dX10_layStretch_144 : decode cX10_layStretch 144 = .ok (.iload_n 3, 1) := by decide +kernel
theorem dX10_layStretch_145 : decode cX10_layStretch 145 = .ok (.ifCond .lt 10, 3) := by decide +kernel
theorem dX10_layStretch_148 : decode cX10_layStretch 148 = .ok (.iload 11, 2) := by decide +kernel
theorem dX10_layStretch_150 : decode cX10_layStretch 150 = .ok (.iload 4, 2) := by decide +kernel
theorem dX10_layStretch_152 : decode cX10_layStretch 152 = .ok (.if_icmp .ge 8, 3) := by decide +kernel
theorem dX10_layStretch_155 : decode cX10_layStretch 155 = .ok (.iload 11, 2) := by decide +kernel
theorem dX10_layStretch_157 : decode cX10_layStretch 157 = .ok (.goto 5, 3) := by decide +kernel
theorem dX10_layStretch_160 : decode cX10_layStretch 160 = .ok (.iload 4, 2) := by decide +kernel
theorem dX10_layStretch_162 : decode cX10_layStretch 162 = .ok (.istore 4, 2) := by decide +kernel
theorem dX10_layStretch_164 : decode cX10_layStretch 164 = .ok (.iload_n 3, 1) := by decide +kernel
theorem dX10_layStretch_165 : decode cX10_layStretch 165 = .ok (.ifCond .lt 26, 3) := by decide +kernel
theorem dX10_layStretch_168 : decode cX10_layStretch 168 = .ok (.iload 11, 2) := by decide +kernel
theorem dX10_layStretch_170 : decode cX10_layStretch 170 = .ok (.iload 4, 2) := by decide +kernel
theorem dX10_layStretch_172 : decode cX10_layStretch 172 = .ok (.if_icmp .ne 24, 3) := by decide +kernel
theorem dX10_layStretch_175 : decode cX10_layStretch 175 = .ok (.iload 11, 2) := by decide +kernel
theorem dX10_layStretch_177 : decode cX10_layStretch 177 = .ok (.aload_n 0, 1) := by decide +kernel
theorem dX10_layStretch_178 : decode cX10_layStretch 178 = .ok (.getfield 60, 3) := by decide +kernel
theorem dX10_layStretch_181 : decode cX10_layStretch 181 = .ok (.bipush 10, 2) := by decide +kernel
theorem dX10_layStretch_183 : decode cX10_layStretch 183 = .ok (.iload_n 1, 1) := by decide +kernel
theorem dX10_layStretch_184 : decode cX10_layStretch 184 = .ok (.imul, 1) := by decide +kernel
theorem dX10_layStretch_185 : decode cX10_layStretch 185 = .ok (.iload_n 2, 1) := by decide +kernel
theorem dX10_layStretch_186 : decode cX10_layStretch 186 = .ok (.iadd, 1) := by decide +kernel
theorem dX10_layStretch_187 : decode cX10_layStretch 187 = .ok (.iaload, 1) := by decide +kernel
theorem dX10_layStretch_188 : decode cX10_layStretch 188 = .ok (.if_icmp .ge 8, 3) := by decide +kernel
theorem dX10_layStretch_191 : decode cX10_layStretch 191 = .ok (.iload 7, 2) := by decide +kernel
theorem dX10_layStretch_193 : decode cX10_layStretch 193 = .ok (.goto 4, 3) := by decide +kernel
theorem dX10_layStretch_196 : decode cX10_layStretch 196 = .ok (.iload_n 3, 1) := by decide +kernel
theorem dX10_layStretch_197 : decode cX10_layStretch 197 = .ok (.istore_n 3, 1) := by decide +kernel
theorem dX10_layStretch_198 : decode cX10_layStretch 198 = .ok (.aload_n 0, 1) := by decide +kernel
theorem dX10_layStretch_199 : decode cX10_layStretch 199 = .ok (.getfield 60, 3) := by decide +kernel
theorem dX10_layStretch_202 : decode cX10_layStretch 202 = .ok (.bipush 10, 2) := by decide +kernel
theorem dX10_layStretch_204 : decode cX10_layStretch 204 = .ok (.iload_n 1, 1) := by decide +kernel
theorem dX10_layStretch_205 : decode cX10_layStretch 205 = .ok (.imul, 1) := by decide +kernel
theorem dX10_layStretch_206 : decode cX10_layStretch 206 = .ok (.iload_n 2, 1) := by decide +kernel
theorem dX10_layStretch_207 : decode cX10_layStretch 207 = .ok (.iadd, 1) := by decide +kernel
theorem dX10_layStretch_208 : decode cX10_layStretch 208 = .ok (.iload 4, 2) := by decide +kernel
theorem dX10_layStretch_210 : decode cX10_layStretch 210 = .ok (.iastore, 1) := by decide +kernel
theorem dX10_layStretch_211 : decode cX10_layStretch 211 = .ok (.iinc 7 1, 3) := by decide +kernel
theorem dX10_layStretch_214 : decode cX10_layStretch 214 = .ok (.goto (-202), 3) := by decide +kernel
theorem dX10_layStretch_217 : decode cX10_layStretch 217 = .ok (.aload_n 0, 1) := by decide +kernel
theorem dX10_layStretch_218 : decode cX10_layStretch 218 = .ok (.getfield 60, 3) := by decide +kernel
theorem dX10_layStretch_221 : decode cX10_layStretch 221 = .ok (.bipush 10, 2) := by decide +kernel
theorem dX10_layStretch_223 : decode cX10_layStretch 223 = .ok (.iload_n 1, 1) := by decide +kernel
theorem dX10_layStretch_224 : decode cX10_layStretch 224 = .ok (.imul, 1) := by decide +kernel
theorem dX10_layStretch_225 : decode cX10_layStretch 225 = .ok (.iload_n 2, 1) := by decide +kernel
theorem dX10_layStretch_226 : decode cX10_layStretch 226 = .ok (.iadd, 1) := by decide +kernel
theorem dX10_layStretch_227 : decode cX10_layStretch 227 = .ok (.iload 4, 2) := by decide +kernel
theorem dX10_layStretch_229 : decode cX10_layStretch 229 = .ok (.iastore, 1) := by decide +kernel
theorem dX10_layStretch_230 : decode cX10_layStretch 230 = .ok (.aload_n 0, 1) := by decide +kernel
theorem dX10_layStretch_231 : decode cX10_layStretch 231 = .ok (.getfield 63, 3) := by decide +kernel
theorem dX10_layStretch_234 : decode cX10_layStretch 234 = .ok (.bipush 10, 2) := by decide +kernel
theorem dX10_layStretch_236 : decode cX10_layStretch 236 = .ok (.iload_n 1, 1) := by decide +kernel
theorem dX10_layStretch_237 : decode cX10_layStretch 237 = .ok (.imul, 1) := by decide +kernel
theorem dX10_layStretch_238 : decode cX10_layStretch 238 = .ok (.iload_n 2, 1) := by decide +kernel
theorem dX10_layStretch_239 : decode cX10_layStretch 239 = .ok (.iadd, 1) := by decide +kernel
theorem dX10_layStretch_240 : decode cX10_layStretch 240 = .ok (.iload_n 3, 1) := by decide +kernel
theorem dX10_layStretch_241 : decode cX10_layStretch 241 = .ok (.iastore, 1) := by decide +kernel
theorem dX10_layStretch_242 : decode cX10_layStretch 242 = .ok (.aload_n 0, 1) := by decide +kernel
theorem dX10_layStretch_243 : decode cX10_layStretch 243 = .ok (.getfield 66, 3) := by decide +kernel
theorem dX10_layStretch_246 : decode cX10_layStretch 246 = .ok (.bipush 10, 2) := by decide +kernel
theorem dX10_layStretch_248 : decode cX10_layStretch 248 = .ok (.iload_n 1, 1) := by decide +kernel
theorem dX10_layStretch_249 : decode cX10_layStretch 249 = .ok (.imul, 1) := by decide +kernel
theorem dX10_layStretch_250 : decode cX10_layStretch 250 = .ok (.iload_n 2, 1) := by decide +kernel
theorem dX10_layStretch_251 : decode cX10_layStretch 251 = .ok (.iadd, 1) := by decide +kernel
theorem dX10_layStretch_252 : decode cX10_layStretch 252 = .ok (.lload 5, 2) := by decide +kernel
theorem dX10_layStretch_254 : decode cX10_layStretch 254 = .ok (.lastore, 1) := by decide +kernel
theorem dX10_layStretch_255 : decode cX10_layStretch 255 = .ok (.return_, 1) := by decide +kernel
theorem dX10_layHalves_0 : decode cX10_layHalves 0 = .ok (.iconst 0, 1) := by decide +kernel
theorem dX10_layHalves_1 : decode cX10_layHalves 1 = .ok (.istore_n 1, 1) := by decide +kernel
theorem dX10_layHalves_2 : decode cX10_layHalves 2 = .ok (.iload_n 1, 1) := by decide +kernel
theorem dX10_layHalves_3 : decode cX10_layHalves 3 = .ok (.aload_n 0, 1) := by decide +kernel
theorem dX10_layHalves_4 : decode cX10_layHalves 4 = .ok (.getfield 81, 3) := by decide +kernel
theorem dX10_layHalves_7 : decode cX10_layHalves 7 = .ok (.if_icmp .ge 35, 3) := by decide +kernel
theorem dX10_layHalves_10 : decode cX10_layHalves 10 = .ok (.iconst 0, 1) := by decide +kernel
theorem dX10_layHalves_11 : decode cX10_layHalves 11 = .ok (.istore_n 2, 1) := by decide +kernel
theorem dX10_layHalves_12 : decode cX10_layHalves 12 = .ok (.iload_n 2, 1) := by decide +kernel
theorem dX10_layHalves_13 : decode cX10_layHalves 13 = .ok (.iload_n 1, 1) := by decide +kernel
theorem dX10_layHalves_14 : decode cX10_layHalves 14 = .ok (.iadd, 1) := by decide +kernel
theorem dX10_layHalves_15 : decode cX10_layHalves 15 = .ok (.aload_n 0, 1) := by decide +kernel
theorem dX10_layHalves_16 : decode cX10_layHalves 16 = .ok (.getfield 81, 3) := by decide +kernel
theorem dX10_layHalves_19 : decode cX10_layHalves 19 = .ok (.if_icmp .ge 17, 3) := by decide +kernel
theorem dX10_layHalves_22 : decode cX10_layHalves 22 = .ok (.aload_n 0, 1) := by decide +kernel
theorem dX10_layHalves_23 : decode cX10_layHalves 23 = .ok (.iload_n 2, 1) := by decide +kernel
theorem dX10_layHalves_24 : decode cX10_layHalves 24 = .ok (.iload_n 2, 1) := by decide +kernel
theorem dX10_layHalves_25 : decode cX10_layHalves 25 = .ok (.iload_n 1, 1) := by decide +kernel
theorem dX10_layHalves_26 : decode cX10_layHalves 26 = .ok (.iadd, 1) := by decide +kernel
theorem dX10_layHalves_27 : decode cX10_layHalves 27 = .ok (.invokevirtual 292, 3) := by decide +kernel
theorem dX10_layHalves_30 : decode cX10_layHalves 30 = .ok (.iinc 2 1, 3) := by decide +kernel
theorem dX10_layHalves_33 : decode cX10_layHalves 33 = .ok (.goto (-21), 3) := by decide +kernel
theorem dX10_layHalves_36 : decode cX10_layHalves 36 = .ok (.iinc 1 1, 3) := by decide +kernel
theorem dX10_layHalves_39 : decode cX10_layHalves 39 = .ok (.goto (-37), 3) := by decide +kernel
theorem dX10_layHalves_42 : decode cX10_layHalves 42 = .ok (.return_, 1) := by decide +kernel
theorem dX10_isStretch_0 : decode cX10_isStretch 0 = .ok (.aload_n 0, 1) := by decide +kernel
theorem dX10_isStretch_1 : decode cX10_isStretch 1 = .ok (.iload_n 1, 1) := by decide +kernel
theorem dX10_isStretch_2 : decode cX10_isStretch 2 = .ok (.invokevirtual 193, 3) := by decide +kernel
theorem dX10_isStretch_5 : decode cX10_isStretch 5 = .ok (.ifCond .eq 20, 3) := by decide +kernel
theorem dX10_isStretch_8 : decode cX10_isStretch 8 = .ok (.aload_n 0, 1) := by decide +kernel
theorem dX10_isStretch_9 : decode cX10_isStretch 9 = .ok (.iload_n 2, 1) := by decide +kernel
theorem dX10_isStretch_10 : decode cX10_isStretch 10 = .ok (.invokevirtual 193, 3) := by decide +kernel
theorem dX10_isStretch_13 : decode cX10_isStretch 13 = .ok (.ifCond .eq 12, 3) := by decide +kernel
theorem dX10_isStretch_16 : decode cX10_isStretch 16 = .ok (.iload_n 1, 1) := by decide +kernel
theorem dX10_isStretch_17 : decode cX10_isStretch 17 = .ok (.iload_n 2, 1) := by decide +kernel
theorem dX10_isStretch_18 : decode cX10_isStretch 18 = .ok (.if_icmp .gt 7, 3) := by decide +kernel
theorem dX10_isStretch_21 : decode cX10_isStretch 21 = .ok (.iconst 1, 1) := by decide +kernel
theorem dX10_isStretch_22 : decode cX10_isStretch 22 = .ok (.goto 4, 3) := by decide +kernel
theorem dX10_isStretch_25 : decode cX10_isStretch 25 = .ok (.iconst 0, 1) := by decide +kernel
theorem dX10_isStretch_26 : decode cX10_isStretch 26 = .ok (.ireturn, 1) := by decide +kernel
theorem dX10_halves_0 : decode cX10_halves 0 = .ok (.aload_n 0, 1) := by decide +kernel
theorem dX10_halves_1 : decode cX10_halves 1 = .ok (.iconst 0, 1) := by decide +kernel
theorem dX10_halves_2 : decode cX10_halves 2 = .ok (.putfield 78, 3) := by decide +kernel
theorem dX10_halves_5 : decode cX10_halves 5 = .ok (.aload_n 0, 1) := by decide +kernel
theorem dX10_halves_6 : decode cX10_halves 6 = .ok (.iload_n 1, 1) := by decide +kernel
theorem dX10_halves_7 : decode cX10_halves 7 = .ok (.iload_n 2, 1) := by decide +kernel
theorem dX10_halves_8 : decode cX10_halves 8 = .ok (.invokevirtual 295, 3) := by decide +kernel
theorem dX10_halves_11 : decode cX10_halves 11 = .ok (.ifCond .eq 13, 3) := by decide +kernel
theorem dX10_halves_14 : decode cX10_halves 14 = .ok (.iload_n 3, 1) := by decide +kernel
theorem dX10_halves_15 : decode cX10_halves 15 = .ok (.i2l, 1) := by decide +kernel
theorem dX10_halves_16 : decode cX10_halves 16 = .ok (.lconst 0, 1) := by decide +kernel
theorem dX10_halves_17 : decode cX10_halves 17 = .ok (.lconst 1, 1) := by decide +kernel
theorem dX10_halves_18 : decode cX10_halves 18 = .ok (.invokestatic 84, 3) := by decide +kernel
theorem dX10_halves_21 : decode cX10_halves 21 = .ok (.ifCond .ne 5, 3) := by decide +kernel
theorem dX10_halves_24 : decode cX10_halves 24 = .ok (.iconst (-1), 1) := by decide +kernel
theorem dX10_halves_25 : decode cX10_halves 25 = .ok (.ireturn, 1) := by decide +kernel
theorem dX10_halves_26 : decode cX10_halves 26 = .ok (.aload_n 0, 1) := by decide +kernel
theorem dX10_halves_27 : decode cX10_halves 27 = .ok (.invokevirtual 298, 3) := by decide +kernel
theorem dX10_halves_30 : decode cX10_halves 30 = .ok (.iload_n 3, 1) := by decide +kernel
theorem dX10_halves_31 : decode cX10_halves 31 = .ok (.ifCond .ne 17, 3) := by decide +kernel
theorem dX10_halves_34 : decode cX10_halves 34 = .ok (.aload_n 0, 1) := by decide +kernel
theorem dX10_halves_35 : decode cX10_halves 35 = .ok (.getfield 60, 3) := by decide +kernel
theorem dX10_halves_38 : decode cX10_halves 38 = .ok (.bipush 10, 2) := by decide +kernel
theorem dX10_halves_40 : decode cX10_halves 40 = .ok (.iload_n 1, 1) := by decide +kernel
theorem dX10_halves_41 : decode cX10_halves 41 = .ok (.imul, 1) := by decide +kernel
theorem dX10_halves_42 : decode cX10_halves 42 = .ok (.iload_n 2, 1) := by decide +kernel
theorem dX10_halves_43 : decode cX10_halves 43 = .ok (.iadd, 1) := by decide +kernel
theorem dX10_halves_44 : decode cX10_halves 44 = .ok (.iaload, 1) := by decide +kernel
theorem dX10_halves_45 : decode cX10_halves 45 = .ok (.goto 14, 3) := by decide +kernel
theorem dX10_halves_48 : decode cX10_halves 48 = .ok (.aload_n 0, 1) := by decide +kernel
theorem dX10_halves_49 : decode cX10_halves 49 = .ok (.getfield 63, 3) := by decide +kernel
theorem dX10_halves_52 : decode cX10_halves 52 = .ok (.bipush 10, 2) := by decide +kernel
theorem dX10_halves_54 : decode cX10_halves 54 = .ok (.iload_n 1, 1) := by decide +kernel
theorem dX10_halves_55 : decode cX10_halves 55 = .ok (.imul, 1) := by decide +kernel
theorem dX10_halves_56 : decode cX10_halves 56 = .ok (.iload_n 2, 1) := by decide +kernel
theorem dX10_halves_57 : decode cX10_halves 57 = .ok (.iadd, 1) := by decide +kernel
theorem dX10_halves_58 : decode cX10_halves 58 = .ok (.iaload, 1) := by decide +kernel
theorem dX10_halves_59 : decode cX10_halves 59 = .ok (.ireturn, 1) := by decide +kernel
theorem dX10_divisor_0 : decode cX10_divisor 0 = .ok (.lload_n 0, 1) := by decide +kernel
theorem dX10_divisor_1 : decode cX10_divisor 1 = .ok (.lstore 4, 2) := by decide +kernel
theorem dX10_divisor_3 : decode cX10_divisor 3 = .ok (.lload_n 2, 1) := by decide +kernel
theorem dX10_divisor_4 : decode cX10_divisor 4 = .ok (.lstore 6, 2) := by decide +kernel
theorem dX10_divisor_6 : decode cX10_divisor 6 = .ok (.lload 6, 2) := by decide +kernel
theorem dX10_divisor_8 : decode cX10_divisor 8 = .ok (.lconst 0, 1) := by decide +kernel
theorem dX10_divisor_9 : decode cX10_divisor 9 = .ok (.lcmp, 1) := by decide +kernel
theorem dX10_divisor_10 : decode cX10_divisor 10 = .ok (.ifCond .eq 21, 3) := by decide +kernel
theorem dX10_divisor_13 : decode cX10_divisor 13 = .ok (.lload 4, 2) := by decide +kernel
theorem dX10_divisor_15 : decode cX10_divisor 15 = .ok (.lload 6, 2) := by decide +kernel
theorem dX10_divisor_17 : decode cX10_divisor 17 = .ok (.lrem, 1) := by decide +kernel
theorem dX10_divisor_18 : decode cX10_divisor 18 = .ok (.lstore 8, 2) := by decide +kernel
theorem dX10_divisor_20 : decode cX10_divisor 20 = .ok (.lload 6, 2) := by decide +kernel
theorem dX10_divisor_22 : decode cX10_divisor 22 = .ok (.lstore 4, 2) := by decide +kernel
theorem dX10_divisor_24 : decode cX10_divisor 24 = .ok (.lload 8, 2) := by decide +kernel
theorem dX10_divisor_26 : decode cX10_divisor 26 = .ok (.lstore 6, 2) := by decide +kernel
theorem dX10_divisor_28 : decode cX10_divisor 28 = .ok (.goto (-22), 3) := by decide +kernel
theorem dX10_divisor_31 : decode cX10_divisor 31 = .ok (.lload 4, 2) := by decide +kernel
theorem dX10_divisor_33 : decode cX10_divisor 33 = .ok (.lreturn, 1) := by decide +kernel
theorem dX10_partOf_0 : decode cX10_partOf 0 = .ok (.lload_n 0, 1) := by decide +kernel
theorem dX10_partOf_1 : decode cX10_partOf 1 = .ok (.lconst 0, 1) := by decide +kernel
theorem dX10_partOf_2 : decode cX10_partOf 2 = .ok (.lcmp, 1) := by decide +kernel
theorem dX10_partOf_3 : decode cX10_partOf 3 = .ok (.ifCond .ne 7, 3) := by decide +kernel
theorem dX10_partOf_6 : decode cX10_partOf 6 = .ok (.iload 4, 2) := by decide +kernel
theorem dX10_partOf_8 : decode cX10_partOf 8 = .ok (.i2l, 1) := by decide +kernel
theorem dX10_partOf_9 : decode cX10_partOf 9 = .ok (.lreturn, 1) := by decide +kernel
theorem dX10_partOf_10 : decode cX10_partOf 10 = .ok (.lload_n 0, 1) := by decide +kernel
theorem dX10_partOf_11 : decode cX10_partOf 11 = .ok (.lload_n 2, 1) := by decide +kernel
theorem dX10_partOf_12 : decode cX10_partOf 12 = .ok (.invokestatic 301, 3) := by decide +kernel
theorem dX10_partOf_15 : decode cX10_partOf 15 = .ok (.lstore 5, 2) := by decide +kernel
theorem dX10_partOf_17 : decode cX10_partOf 17 = .ok (.iload 4, 2) := by decide +kernel
theorem dX10_partOf_19 : decode cX10_partOf 19 = .ok (.ifCond .ne 10, 3) := by decide +kernel
theorem dX10_partOf_22 : decode cX10_partOf 22 = .ok (.lload_n 0, 1) := by decide +kernel
theorem dX10_partOf_23 : decode cX10_partOf 23 = .ok (.lload 5, 2) := by decide +kernel
theorem dX10_partOf_25 : decode cX10_partOf 25 = .ok (.ldiv, 1) := by decide +kernel
theorem dX10_partOf_26 : decode cX10_partOf 26 = .ok (.goto 7, 3) := by decide +kernel
theorem dX10_partOf_29 : decode cX10_partOf 29 = .ok (.lload_n 2, 1) := by decide +kernel
theorem dX10_partOf_30 : decode cX10_partOf 30 = .ok (.lload 5, 2) := by decide +kernel
theorem dX10_partOf_32 : decode cX10_partOf 32 = .ok (.ldiv, 1) := by decide +kernel
theorem dX10_partOf_33 : decode cX10_partOf 33 = .ok (.lreturn, 1) := by decide +kernel
theorem dX10_mean_0 : decode cX10_mean 0 = .ok (.aload_n 0, 1) := by decide +kernel
theorem dX10_mean_1 : decode cX10_mean 1 = .ok (.iconst 0, 1) := by decide +kernel
theorem dX10_mean_2 : decode cX10_mean 2 = .ok (.putfield 78, 3) := by decide +kernel
theorem dX10_mean_5 : decode cX10_mean 5 = .ok (.aload_n 0, 1) := by decide +kernel
theorem dX10_mean_6 : decode cX10_mean 6 = .ok (.iload_n 1, 1) := by decide +kernel
theorem dX10_mean_7 : decode cX10_mean 7 = .ok (.iload_n 2, 1) := by decide +kernel
theorem dX10_mean_8 : decode cX10_mean 8 = .ok (.invokevirtual 295, 3) := by decide +kernel
theorem dX10_mean_11 : decode cX10_mean 11 = .ok (.ifCond .eq 13, 3) := by decide +kernel
theorem dX10_mean_14 : decode cX10_mean 14 = .ok (.iload_n 3, 1) := by decide +kernel
theorem dX10_mean_15 : decode cX10_mean 15 = .ok (.i2l, 1) := by decide +kernel
theorem dX10_mean_16 : decode cX10_mean 16 = .ok (.lconst 0, 1) := by decide +kernel
theorem dX10_mean_17 : decode cX10_mean 17 = .ok (.lconst 1, 1) := by decide +kernel
theorem dX10_mean_18 : decode cX10_mean 18 = .ok (.invokestatic 84, 3) := by decide +kernel
theorem dX10_mean_21 : decode cX10_mean 21 = .ok (.ifCond .ne 7, 3) := by decide +kernel
theorem dX10_mean_24 : decode cX10_mean 24 = .ok (.ldc2_w 305, 3) := by decide +kernel
theorem dX10_mean_27 : decode cX10_mean 27 = .ok (.lreturn, 1) := by decide +kernel
theorem dX10_mean_28 : decode cX10_mean 28 = .ok (.aload_n 0, 1) := by decide +kernel
theorem dX10_mean_29 : decode cX10_mean 29 = .ok (.invokevirtual 298, 3) := by decide +kernel
theorem dX10_mean_32 : decode cX10_mean 32 = .ok (.aload_n 0, 1) := by decide +kernel
theorem dX10_mean_33 : decode cX10_mean 33 = .ok (.getfield 66, 3) := by decide +kernel
theorem dX10_mean_36 : decode cX10_mean 36 = .ok (.bipush 10, 2) := by decide +kernel
theorem dX10_mean_38 : decode cX10_mean 38 = .ok (.iload_n 1, 1) := by decide +kernel
theorem dX10_mean_39 : decode cX10_mean 39 = .ok (.imul, 1) := by decide +kernel
theorem dX10_mean_40 : decode cX10_mean 40 = .ok (.iload_n 2, 1) := by decide +kernel
theorem dX10_mean_41 : decode cX10_mean 41 = .ok (.iadd, 1) := by decide +kernel
theorem dX10_mean_42 : decode cX10_mean 42 = .ok (.laload, 1) := by decide +kernel
theorem dX10_mean_43 : decode cX10_mean 43 = .ok (.aload_n 0, 1) := by decide +kernel
theorem dX10_mean_44 : decode cX10_mean 44 = .ok (.iload_n 1, 1) := by decide +kernel
theorem dX10_mean_45 : decode cX10_mean 45 = .ok (.iload_n 2, 1) := by decide +kernel
theorem dX10_mean_46 : decode cX10_mean 46 = .ok (.invokevirtual 289, 3) := by decide +kernel
theorem dX10_mean_49 : decode cX10_mean 49 = .ok (.i2l, 1) := by decide +kernel
theorem dX10_mean_50 : decode cX10_mean 50 = .ok (.iload_n 3, 1) := by decide +kernel
theorem dX10_mean_51 : decode cX10_mean 51 = .ok (.invokestatic 307, 3) := by decide +kernel
theorem dX10_mean_54 : decode cX10_mean 54 = .ok (.lreturn, 1) := by decide +kernel
theorem dX10_layOrder_0 : decode cX10_layOrder 0 = .ok (.iconst 0, 1) := by decide +kernel
theorem dX10_layOrder_1 : decode cX10_layOrder 1 = .ok (.istore_n 3, 1) := by decide +kernel
theorem dX10_layOrder_2 : decode cX10_layOrder 2 = .ok (.iconst 0, 1) := by decide +kernel
theorem dX10_layOrder_3 : decode cX10_layOrder 3 = .ok (.istore 4, 2) := by decide +kernel
theorem dX10_layOrder_5 : decode cX10_layOrder 5 = .ok (.iload 4, 2) := by decide +kernel
theorem dX10_layOrder_7 : decode cX10_layOrder 7 = .ok (.aload_n 0, 1) := by decide +kernel
theorem dX10_layOrder_8 : decode cX10_layOrder 8 = .ok (.getfield 81, 3) := by decide +kernel
theorem dX10_layOrder_11 : decode cX10_layOrder 11 = .ok (.if_icmp .ge 29, 3) := by decide +kernel
theorem dX10_layOrder_14 : decode cX10_layOrder 14 = .ok (.iload_n 1, 1) := by decide +kernel
theorem dX10_layOrder_15 : decode cX10_layOrder 15 = .ok (.iload 4, 2) := by decide +kernel
theorem dX10_layOrder_17 : decode cX10_layOrder 17 = .ok (.invokestatic 91, 3) := by decide +kernel
theorem dX10_layOrder_20 : decode cX10_layOrder 20 = .ok (.ifCond .eq 14, 3) := by decide +kernel
theorem dX10_layOrder_23 : decode cX10_layOrder 23 = .ok (.aload_n 0, 1) := by decide +kernel
theorem dX10_layOrder_24 : decode cX10_layOrder 24 = .ok (.getfield 69, 3) := by decide +kernel
theorem dX10_layOrder_27 : decode cX10_layOrder 27 = .ok (.iload_n 3, 1) := by decide +kernel
theorem dX10_layOrder_28 : decode cX10_layOrder 28 = .ok (.iload 4, 2) := by decide +kernel
theorem dX10_layOrder_30 : decode cX10_layOrder 30 = .ok (.iastore, 1) := by decide +kernel
theorem dX10_layOrder_31 : decode cX10_layOrder 31 = .ok (.iinc 3 1, 3) := by decide +kernel
theorem dX10_layOrder_34 : decode cX10_layOrder 34 = .ok (.iinc 4 1, 3) := by decide +kernel
theorem dX10_layOrder_37 : decode cX10_layOrder 37 = .ok (.goto (-32), 3) := by decide +kernel
theorem dX10_layOrder_40 : decode cX10_layOrder 40 = .ok (.iload_n 2, 1) := by decide +kernel
theorem dX10_layOrder_41 : decode cX10_layOrder 41 = .ok (.istore 4, 2) := by decide +kernel
theorem dX10_layOrder_43 : decode cX10_layOrder 43 = .ok (.iconst 1, 1) := by decide +kernel
theorem dX10_layOrder_44 : decode cX10_layOrder 44 = .ok (.istore 5, 2) := by decide +kernel
theorem dX10_layOrder_46 : decode cX10_layOrder 46 = .ok (.iconst 2, 1) := by decide +kernel
theorem dX10_layOrder_47 : decode cX10_layOrder 47 = .ok (.istore 6, 2) := by decide +kernel
theorem dX10_layOrder_49 : decode cX10_layOrder 49 = .ok (.iload 6, 2) := by decide +kernel
theorem dX10_layOrder_51 : decode cX10_layOrder 51 = .ok (.iload_n 3, 1) := by decide +kernel
theorem dX10_layOrder_52 : decode cX10_layOrder 52 = .ok (.if_icmp .ge 16, 3) := by decide +kernel
theorem dX10_layOrder_55 : decode cX10_layOrder 55 = .ok (.iload 5, 2) := by decide +kernel
theorem dX10_layOrder_57 : decode cX10_layOrder 57 = .ok (.iload 6, 2) := by decide +kernel
theorem dX10_layOrder_59 : decode cX10_layOrder 59 = .ok (.imul, 1) := by decide +kernel
theorem dX10_layOrder_60 : decode cX10_layOrder 60 = .ok (.istore 5, 2) := by decide +kernel
theorem dX10_layOrder_62 : decode cX10_layOrder 62 = .ok (.iinc 6 1, 3) := by decide +kernel
theorem dX10_layOrder_65 : decode cX10_layOrder 65 = .ok (.goto (-16), 3) := by decide +kernel
theorem dX10_layOrder_68 : decode cX10_layOrder 68 = .ok (.iconst 0, 1) := by decide +kernel
theorem dX10_layOrder_69 : decode cX10_layOrder 69 = .ok (.istore 6, 2) := by decide +kernel
theorem dX10_layOrder_71 : decode cX10_layOrder 71 = .ok (.iload 6, 2) := by decide +kernel
theorem dX10_layOrder_73 : decode cX10_layOrder 73 = .ok (.iload_n 3, 1) := by decide +kernel
theorem dX10_layOrder_74 : decode cX10_layOrder 74 = .ok (.if_icmp .ge 94, 3) := by decide +kernel
theorem dX10_layOrder_77 : decode cX10_layOrder 77 = .ok (.iload 4, 2) := by decide +kernel
theorem dX10_layOrder_79 : decode cX10_layOrder 79 = .ok (.iload 5, 2) := by decide +kernel
theorem dX10_layOrder_81 : decode cX10_layOrder 81 = .ok (.idiv, 1) := by decide +kernel
theorem dX10_layOrder_82 : decode cX10_layOrder 82 = .ok (.istore 7, 2) := by decide +kernel
theorem dX10_layOrder_84 : decode cX10_layOrder 84 = .ok (.iload 4, 2) := by decide +kernel
theorem dX10_layOrder_86 : decode cX10_layOrder 86 = .ok (.iload 5, 2) := by decide +kernel
theorem dX10_layOrder_88 : decode cX10_layOrder 88 = .ok (.irem, 1) := by decide +kernel
theorem dX10_layOrder_89 : decode cX10_layOrder 89 = .ok (.istore 4, 2) := by decide +kernel
theorem dX10_layOrder_91 : decode cX10_layOrder 91 = .ok (.aload_n 0, 1) := by decide +kernel
theorem dX10_layOrder_92 : decode cX10_layOrder 92 = .ok (.getfield 72, 3) := by decide +kernel
theorem dX10_layOrder_95 : decode cX10_layOrder 95 = .ok (.iload 6, 2) := by decide +kernel
theorem dX10_layOrder_97 : decode cX10_layOrder 97 = .ok (.aload_n 0, 1) := by decide +kernel
theorem dX10_layOrder_98 : decode cX10_layOrder 98 = .ok (.getfield 69, 3) := by decide +kernel
theorem dX10_layOrder_101 : decode cX10_layOrder 101 = .ok (.iload 7, 2) := by decide +kernel
theorem dX10_layOrder_103 : decode cX10_layOrder 103 = .ok (.iaload, 1) := by decide +kernel
theorem dX10_layOrder_104 : decode cX10_layOrder 104 = .ok (.iastore, 1) := by decide +kernel
theorem dX10_layOrder_105 : decode cX10_layOrder 105 = .ok (.iload 7, 2) := by decide +kernel
theorem dX10_layOrder_107 : decode cX10_layOrder 107 = .ok (.istore 8, 2) := by decide +kernel
theorem dX10_layOrder_109 : decode cX10_layOrder 109 = .ok (.iload 8, 2) := by decide +kernel
theorem dX10_layOrder_111 : decode cX10_layOrder 111 = .ok (.iconst 1, 1) := by decide +kernel
theorem dX10_layOrder_112 : decode cX10_layOrder 112 = .ok (.iadd, 1) := by decide +kernel
theorem dX10_layOrder_113 : decode cX10_layOrder 113 = .ok (.iload_n 3, 1) := by decide +kernel
theorem dX10_layOrder_114 : decode cX10_layOrder 114 = .ok (.if_icmp .ge 25, 3) := by decide +kernel
theorem dX10_layOrder_117 : decode cX10_layOrder 117 = .ok (.aload_n 0, 1) := by decide +kernel
theorem dX10_layOrder_118 : decode cX10_layOrder 118 = .ok (.getfield 69, 3) := by decide +kernel
theorem dX10_layOrder_121 : decode cX10_layOrder 121 = .ok (.iload 8, 2) := by decide +kernel
theorem dX10_layOrder_123 : decode cX10_layOrder 123 = .ok (.aload_n 0, 1) := by decide +kernel
theorem dX10_layOrder_124 : decode cX10_layOrder 124 = .ok (.getfield 69, 3) := by decide +kernel
theorem dX10_layOrder_127 : decode cX10_layOrder 127 = .ok (.iload 8, 2) := by decide +kernel
theorem dX10_layOrder_129 : decode cX10_layOrder 129 = .ok (.iconst 1, 1) := by decide +kernel
theorem dX10_layOrder_130 : decode cX10_layOrder 130 = .ok (.iadd, 1) := by decide +kernel
theorem dX10_layOrder_131 : decode cX10_layOrder 131 = .ok (.iaload, 1) := by decide +kernel
theorem dX10_layOrder_132 : decode cX10_layOrder 132 = .ok (.iastore, 1) := by decide +kernel
theorem dX10_layOrder_133 : decode cX10_layOrder 133 = .ok (.iinc 8 1, 3) := by decide +kernel
theorem dX10_layOrder_136 : decode cX10_layOrder 136 = .ok (.goto (-27), 3) := by decide +kernel
theorem dX10_layOrder_139 : decode cX10_layOrder 139 = .ok (.iload 6, 2) := by decide +kernel
theorem dX10_layOrder_141 : decode cX10_layOrder 141 = .ok (.iload_n 3, 1) := by decide +kernel
theorem dX10_layOrder_142 : decode cX10_layOrder 142 = .ok (.iconst 1, 1) := by decide +kernel
theorem dX10_layOrder_143 : decode cX10_layOrder 143 = .ok (.isub, 1) := by decide +kernel
theorem dX10_layOrder_144 : decode cX10_layOrder 144 = .ok (.if_icmp .ge 15, 3) := by decide +kernel
theorem dX10_layOrder_147 : decode cX10_layOrder 147 = .ok (.iload 5, 2) := by decide +kernel
theorem dX10_layOrder_149 : decode cX10_layOrder 149 = .ok (.iload_n 3, 1) := by decide +kernel
theorem dX10_layOrder_150 : decode cX10_layOrder 150 = .ok (.iconst 1, 1) := by decide +kernel
theorem dX10_layOrder_151 : decode cX10_layOrder 151 = .ok (.isub, 1) := by decide +kernel
theorem dX10_layOrder_152 : decode cX10_layOrder 152 = .ok (.iload 6, 2) := by decide +kernel
theorem dX10_layOrder_154 : decode cX10_layOrder 154 = .ok (.isub, 1) := by decide +kernel
theorem dX10_layOrder_155 : decode cX10_layOrder 155 = .ok (.idiv, 1) := by decide +kernel
theorem dX10_layOrder_156 : decode cX10_layOrder 156 = .ok (.goto 4, 3) := by decide +kernel
theorem dX10_layOrder_159 : decode cX10_layOrder 159 = .ok (.iconst 1, 1) := by decide +kernel
theorem dX10_layOrder_160 : decode cX10_layOrder 160 = .ok (.istore 5, 2) := by decide +kernel
theorem dX10_layOrder_162 : decode cX10_layOrder 162 = .ok (.iinc 6 1, 3) := by decide +kernel
theorem dX10_layOrder_165 : decode cX10_layOrder 165 = .ok (.goto (-94), 3) := by decide +kernel
theorem dX10_layOrder_168 : decode cX10_layOrder 168 = .ok (.iload_n 3, 1) := by decide +kernel
theorem dX10_layOrder_169 : decode cX10_layOrder 169 = .ok (.ireturn, 1) := by decide +kernel
theorem dX10_secondsOf_0 : decode cX10_secondsOf 0 = .ok (.aload_n 0, 1) := by decide +kernel
theorem dX10_secondsOf_1 : decode cX10_secondsOf 1 = .ok (.getfield 149, 3) := by decide +kernel
theorem dX10_secondsOf_4 : decode cX10_secondsOf 4 = .ok (.istore_n 2, 1) := by decide +kernel
theorem dX10_secondsOf_5 : decode cX10_secondsOf 5 = .ok (.iconst 0, 1) := by decide +kernel
theorem dX10_secondsOf_6 : decode cX10_secondsOf 6 = .ok (.istore_n 3, 1) := by decide +kernel
theorem dX10_secondsOf_7 : decode cX10_secondsOf 7 = .ok (.iconst 0, 1) := by decide +kernel
theorem dX10_secondsOf_8 : decode cX10_secondsOf 8 = .ok (.istore 4, 2) := by decide +kernel
theorem dX10_secondsOf_10 : decode cX10_secondsOf 10 = .ok (.iconst 0, 1) := by decide +kernel
theorem dX10_secondsOf_11 : decode cX10_secondsOf 11 = .ok (.istore 5, 2) := by decide +kernel
theorem dX10_secondsOf_13 : decode cX10_secondsOf 13 = .ok (.iload 5, 2) := by decide +kernel
theorem dX10_secondsOf_15 : decode cX10_secondsOf 15 = .ok (.iload_n 1, 1) := by decide +kernel
theorem dX10_secondsOf_16 : decode cX10_secondsOf 16 = .ok (.if_icmp .ge 49, 3) := by decide +kernel
theorem dX10_secondsOf_19 : decode cX10_secondsOf 19 = .ok (.iload_n 3, 1) := by decide +kernel
theorem dX10_secondsOf_20 : decode cX10_secondsOf 20 = .ok (.bipush 8, 2) := by decide +kernel
theorem dX10_secondsOf_22 : decode cX10_secondsOf 22 = .ok (.iload_n 2, 1) := by decide +kernel
theorem dX10_secondsOf_23 : decode cX10_secondsOf 23 = .ok (.aload_n 0, 1) := by decide +kernel
theorem dX10_secondsOf_24 : decode cX10_secondsOf 24 = .ok (.getfield 72, 3) := by decide +kernel
theorem dX10_secondsOf_27 : decode cX10_secondsOf 27 = .ok (.iload 5, 2) := by decide +kernel
theorem dX10_secondsOf_29 : decode cX10_secondsOf 29 = .ok (.iaload, 1) := by decide +kernel
theorem dX10_secondsOf_30 : decode cX10_secondsOf 30 = .ok (.invokestatic 152, 3) := by decide +kernel
theorem dX10_secondsOf_33 : decode cX10_secondsOf 33 = .ok (.iadd, 1) := by decide +kernel
theorem dX10_secondsOf_34 : decode cX10_secondsOf 34 = .ok (.iadd, 1) := by decide +kernel
theorem dX10_secondsOf_35 : decode cX10_secondsOf 35 = .ok (.istore_n 3, 1) := by decide +kernel
theorem dX10_secondsOf_36 : decode cX10_secondsOf 36 = .ok (.aload_n 0, 1) := by decide +kernel
theorem dX10_secondsOf_37 : decode cX10_secondsOf 37 = .ok (.getfield 72, 3) := by decide +kernel
theorem dX10_secondsOf_40 : decode cX10_secondsOf 40 = .ok (.iload 5, 2) := by decide +kernel
theorem dX10_secondsOf_42 : decode cX10_secondsOf 42 = .ok (.iaload, 1) := by decide +kernel
theorem dX10_secondsOf_43 : decode cX10_secondsOf 43 = .ok (.istore_n 2, 1) := by decide +kernel
theorem dX10_secondsOf_44 : decode cX10_secondsOf 44 = .ok (.iload 4, 2) := by decide +kernel
theorem dX10_secondsOf_46 : decode cX10_secondsOf 46 = .ok (.iload_n 3, 1) := by decide +kernel
theorem dX10_secondsOf_47 : decode cX10_secondsOf 47 = .ok (.aload_n 0, 1) := by decide +kernel
theorem dX10_secondsOf_48 : decode cX10_secondsOf 48 = .ok (.getfield 16, 3) := by decide +kernel
theorem dX10_secondsOf_51 : decode cX10_secondsOf 51 = .ok (.iload_n 2, 1) := by decide +kernel
theorem dX10_secondsOf_52 : decode cX10_secondsOf 52 = .ok (.iaload, 1) := by decide +kernel
theorem dX10_secondsOf_53 : decode cX10_secondsOf 53 = .ok (.iconst 1, 1) := by decide +kernel
theorem dX10_secondsOf_54 : decode cX10_secondsOf 54 = .ok (.iadd, 1) := by decide +kernel
theorem dX10_secondsOf_55 : decode cX10_secondsOf 55 = .ok (.imul, 1) := by decide +kernel
theorem dX10_secondsOf_56 : decode cX10_secondsOf 56 = .ok (.iadd, 1) := by decide +kernel
theorem dX10_secondsOf_57 : decode cX10_secondsOf 57 = .ok (.istore 4, 2) := by decide +kernel
theorem dX10_secondsOf_59 : decode cX10_secondsOf 59 = .ok (.iinc 5 1, 3) := by decide +kernel
theorem dX10_secondsOf_62 : decode cX10_secondsOf 62 = .ok (.goto (-49), 3) := by decide +kernel
theorem dX10_secondsOf_65 : decode cX10_secondsOf 65 = .ok (.iload 4, 2) := by decide +kernel
theorem dX10_secondsOf_67 : decode cX10_secondsOf 67 = .ok (.ireturn, 1) := by decide +kernel
theorem dX10_numberOf_0 : decode cX10_numberOf 0 = .ok (.iconst 1, 1) := by decide +kernel
theorem dX10_numberOf_1 : decode cX10_numberOf 1 = .ok (.istore_n 2, 1) := by decide +kernel
theorem dX10_numberOf_2 : decode cX10_numberOf 2 = .ok (.iconst 0, 1) := by decide +kernel
theorem dX10_numberOf_3 : decode cX10_numberOf 3 = .ok (.istore_n 3, 1) := by decide +kernel
theorem dX10_numberOf_4 : decode cX10_numberOf 4 = .ok (.iload_n 3, 1) := by decide +kernel
theorem dX10_numberOf_5 : decode cX10_numberOf 5 = .ok (.iload_n 1, 1) := by decide +kernel
theorem dX10_numberOf_6 : decode cX10_numberOf 6 = .ok (.if_icmp .ge 21, 3) := by decide +kernel
theorem dX10_numberOf_9 : decode cX10_numberOf 9 = .ok (.bipush 10, 2) := by decide +kernel
theorem dX10_numberOf_11 : decode cX10_numberOf 11 = .ok (.iload_n 2, 1) := by decide +kernel
theorem dX10_numberOf_12 : decode cX10_numberOf 12 = .ok (.imul, 1) := by decide +kernel
theorem dX10_numberOf_13 : decode cX10_numberOf 13 = .ok (.aload_n 0, 1) := by decide +kernel
theorem dX10_numberOf_14 : decode cX10_numberOf 14 = .ok (.getfield 72, 3) := by decide +kernel
theorem dX10_numberOf_17 : decode cX10_numberOf 17 = .ok (.iload_n 3, 1) := by decide +kernel
theorem dX10_numberOf_18 : decode cX10_numberOf 18 = .ok (.iaload, 1) := by decide +kernel
theorem dX10_numberOf_19 : decode cX10_numberOf 19 = .ok (.iadd, 1) := by decide +kernel
theorem dX10_numberOf_20 : decode cX10_numberOf 20 = .ok (.istore_n 2, 1) := by decide +kernel
theorem dX10_numberOf_21 : decode cX10_numberOf 21 = .ok (.iinc 3 1, 3) := by decide +kernel
theorem dX10_numberOf_24 : decode cX10_numberOf 24 = .ok (.goto (-20), 3) := by decide +kernel
theorem dX10_numberOf_27 : decode cX10_numberOf 27 = .ok (.iload_n 2, 1) := by decide +kernel
theorem dX10_numberOf_28 : decode cX10_numberOf 28 = .ok (.ireturn, 1) := by decide +kernel
theorem dX10_order_0 : decode cX10_order 0 = .ok (.aload_n 0, 1) := by decide +kernel
theorem dX10_order_1 : decode cX10_order 1 = .ok (.iconst 0, 1) := by decide +kernel
theorem dX10_order_2 : decode cX10_order 2 = .ok (.putfield 78, 3) := by decide +kernel
theorem dX10_order_5 : decode cX10_order 5 = .ok (.iload_n 1, 1) := by decide +kernel
theorem dX10_order_6 : decode cX10_order 6 = .ok (.ifCond .lt 30, 3) := by decide +kernel
theorem dX10_order_9 : decode cX10_order 9 = .ok (.iload_n 1, 1) := by decide +kernel
theorem dX10_order_10 : decode cX10_order 10 = .ok (.aload_n 0, 1) := by decide +kernel
theorem dX10_order_11 : decode cX10_order 11 = .ok (.getfield 81, 3) := by decide +kernel
theorem dX10_order_14 : decode cX10_order 14 = .ok (.ishr, 1) := by decide +kernel
theorem dX10_order_15 : decode cX10_order 15 = .ok (.ifCond .ne 21, 3) := by decide +kernel
theorem dX10_order_18 : decode cX10_order 18 = .ok (.iload_n 1, 1) := by decide +kernel
theorem dX10_order_19 : decode cX10_order 19 = .ok (.invokestatic 311, 3) := by decide +kernel
theorem dX10_order_22 : decode cX10_order 22 = .ok (.iconst 5, 1) := by decide +kernel
theorem dX10_order_23 : decode cX10_order 23 = .ok (.if_icmp .gt 13, 3) := by decide +kernel
theorem dX10_order_26 : decode cX10_order 26 = .ok (.iload_n 2, 1) := by decide +kernel
theorem dX10_order_27 : decode cX10_order 27 = .ok (.i2l, 1) := by decide +kernel
theorem dX10_order_28 : decode cX10_order 28 = .ok (.lconst 0, 1) := by decide +kernel
theorem dX10_order_29 : decode cX10_order 29 = .ok (.lconst 1, 1) := by decide +kernel
theorem dX10_order_30 : decode cX10_order 30 = .ok (.invokestatic 84, 3) := by decide +kernel
theorem dX10_order_33 : decode cX10_order 33 = .ok (.ifCond .ne 5, 3) := by decide +kernel
theorem dX10_order_36 : decode cX10_order 36 = .ok (.iconst (-1), 1) := by decide +kernel
theorem dX10_order_37 : decode cX10_order 37 = .ok (.ireturn, 1) := by decide +kernel
theorem dX10_order_38 : decode cX10_order 38 = .ok (.iconst 1, 1) := by decide +kernel
theorem dX10_order_39 : decode cX10_order 39 = .ok (.istore_n 3, 1) := by decide +kernel
theorem dX10_order_40 : decode cX10_order 40 = .ok (.iconst 2, 1) := by decide +kernel
theorem dX10_order_41 : decode cX10_order 41 = .ok (.istore 4, 2) := by decide +kernel
theorem dX10_order_43 : decode cX10_order 43 = .ok (.iload 4, 2) := by decide +kernel
theorem dX10_order_45 : decode cX10_order 45 = .ok (.iload_n 1, 1) := by decide +kernel
theorem dX10_order_46 : decode cX10_order 46 = .ok (.invokestatic 311, 3) := by decide +kernel
theorem dX10_order_49 : decode cX10_order 49 = .ok (.if_icmp .gt 14, 3) := by decide +kernel
theorem dX10_order_52 : decode cX10_order 52 = .ok (.iload_n 3, 1) := by decide +kernel
theorem dX10_order_53 : decode cX10_order 53 = .ok (.iload 4, 2) := by decide +kernel
theorem dX10_order_55 : decode cX10_order 55 = .ok (.imul, 1) := by decide +kernel
theorem dX10_order_56 : decode cX10_order 56 = .ok (.istore_n 3, 1) := by decide +kernel
theorem dX10_order_57 : decode cX10_order 57 = .ok (.iinc 4 1, 3) := by decide +kernel
theorem dX10_order_60 : decode cX10_order 60 = .ok (.goto (-17), 3) := by decide +kernel
theorem dX10_order_63 : decode cX10_order 63 = .ok (.iconst 1, 1) := by decide +kernel
theorem dX10_order_64 : decode cX10_order 64 = .ok (.istore 4, 2) := by decide +kernel
theorem dX10_order_66 : decode cX10_order 66 = .ok (.iconst (-1), 1) := by decide +kernel
theorem dX10_order_67 : decode cX10_order 67 = .ok (.istore 5, 2) := by decide +kernel
theorem dX10_order_69 : decode cX10_order 69 = .ok (.iconst 0, 1) := by decide +kernel
theorem dX10_order_70 : decode cX10_order 70 = .ok (.istore 6, 2) := by decide +kernel
theorem dX10_order_72 : decode cX10_order 72 = .ok (.iload 6, 2) := by decide +kernel
theorem dX10_order_74 : decode cX10_order 74 = .ok (.iload_n 3, 1) := by decide +kernel
theorem dX10_order_75 : decode cX10_order 75 = .ok (.if_icmp .ge 72, 3) := by decide +kernel
theorem dX10_order_78 : decode cX10_order 78 = .ok (.aload_n 0, 1) := by decide +kernel
theorem dX10_order_79 : decode cX10_order 79 = .ok (.iload_n 1, 1) := by decide +kernel
theorem dX10_order_80 : decode cX10_order 80 = .ok (.iload 6, 2) := by decide +kernel
theorem dX10_order_82 : decode cX10_order 82 = .ok (.invokevirtual 314, 3) := by decide +kernel
theorem dX10_order_85 : decode cX10_order 85 = .ok (.istore 7, 2) := by decide +kernel
theorem dX10_order_87 : decode cX10_order 87 = .ok (.aload_n 0, 1) := by decide +kernel
theorem dX10_order_88 : decode cX10_order 88 = .ok (.iload 7, 2) := by decide +kernel
theorem dX10_order_90 : decode cX10_order 90 = .ok (.invokevirtual 317, 3) := by decide +kernel
theorem dX10_order_93 : decode cX10_order 93 = .ok (.istore 8, 2) := by decide +kernel
theorem dX10_order_95 : decode cX10_order 95 = .ok (.iload 5, 2) := by decide +kernel
theorem dX10_order_97 : decode cX10_order 97 = .ok (.ifCond .lt 10, 3) := by decide +kernel
theorem dX10_order_100 : decode cX10_order 100 = .ok (.iload 8, 2) := by decide +kernel
theorem dX10_order_102 : decode cX10_order 102 = .ok (.iload 5, 2) := by decide +kernel
theorem dX10_order_104 : decode cX10_order 104 = .ok (.if_icmp .ge 12, 3) := by decide +kernel
theorem dX10_order_107 : decode cX10_order 107 = .ok (.aload_n 0, 1) := by decide +kernel
theorem dX10_order_108 : decode cX10_order 108 = .ok (.iload 7, 2) := by decide +kernel
theorem dX10_order_110 : decode cX10_order 110 = .ok (.invokevirtual 320, 3) := by decide +kernel
theorem dX10_order_113 : decode cX10_order 113 = .ok (.goto 5, 3) := by decide +kernel
theorem dX10_order_116 : decode cX10_order 116 = .ok (.iload 4, 2) := by decide +kernel
theorem dX10_order_118 : decode cX10_order 118 = .ok (.istore 4, 2) := by decide +kernel
theorem dX10_order_120 : decode cX10_order 120 = .ok (.iload 5, 2) := by decide +kernel
theorem dX10_order_122 : decode cX10_order 122 = .ok (.ifCond .lt 10, 3) := by decide +kernel
theorem dX10_order_125 : decode cX10_order 125 = .ok (.iload 8, 2) := by decide +kernel
theorem dX10_order_127 : decode cX10_order 127 = .ok (.iload 5, 2) := by decide +kernel
theorem dX10_order_129 : decode cX10_order 129 = .ok (.if_icmp .ge 8, 3) := by decide +kernel
theorem dX10_order_132 : decode cX10_order 132 = .ok (.iload 8, 2) := by decide +kernel
theorem dX10_order_134 : decode cX10_order 134 = .ok (.goto 5, 3) := by decide +kernel
theorem dX10_order_137 : decode cX10_order 137 = .ok (.iload 5, 2) := by decide +kernel
theorem dX10_order_139 : decode cX10_order 139 = .ok (.istore 5, 2) := by decide +kernel
theorem dX10_order_141 : decode cX10_order 141 = .ok (.iinc 6 1, 3) := by decide +kernel
theorem dX10_order_144 : decode cX10_order 144 = .ok (.goto (-72), 3) := by decide +kernel
theorem dX10_order_147 : decode cX10_order 147 = .ok (.iload_n 2, 1) := by decide +kernel
theorem dX10_order_148 : decode cX10_order 148 = .ok (.ifCond .ne 8, 3) := by decide +kernel
theorem dX10_order_151 : decode cX10_order 151 = .ok (.iload 4, 2) := by decide +kernel
theorem dX10_order_153 : decode cX10_order 153 = .ok (.goto 5, 3) := by decide +kernel
theorem dX10_order_156 : decode cX10_order 156 = .ok (.iload 5, 2) := by decide +kernel
theorem dX10_order_158 : decode cX10_order 158 = .ok (.ireturn, 1) := by decide +kernel
theorem dX10_wrongThrees_0 : decode cX10_wrongThrees 0 = .ok (.aload_n 0, 1) := by decide +kernel
theorem dX10_wrongThrees_1 : decode cX10_wrongThrees 1 = .ok (.iload_n 1, 1) := by decide +kernel
theorem dX10_wrongThrees_2 : decode cX10_wrongThrees 2 = .ok (.invokevirtual 219, 3) := by decide +kernel
theorem dX10_wrongThrees_5 : decode cX10_wrongThrees 5 = .ok (.istore_n 2, 1) := by decide +kernel
theorem dX10_wrongThrees_6 : decode cX10_wrongThrees 6 = .ok (.iload_n 2, 1) := by decide +kernel
theorem dX10_wrongThrees_7 : decode cX10_wrongThrees 7 = .ok (.ifCond .ge 5, 3) := by decide +kernel
theorem dX10_wrongThrees_10 : decode cX10_wrongThrees 10 = .ok (.iload_n 2, 1) := by decide +kernel
theorem dX10_wrongThrees_11 : decode cX10_wrongThrees 11 = .ok (.ireturn, 1) := by decide +kernel
theorem dX10_wrongThrees_12 : decode cX10_wrongThrees 12 = .ok (.aload_n 0, 1) := by decide +kernel
theorem dX10_wrongThrees_13 : decode cX10_wrongThrees 13 = .ok (.getfield 38, 3) := by decide +kernel
theorem dX10_wrongThrees_16 : decode cX10_wrongThrees 16 = .ok (.iload_n 1, 1) := by decide +kernel
theorem dX10_wrongThrees_17 : decode cX10_wrongThrees 17 = .ok (.iaload, 1) := by decide +kernel
theorem dX10_wrongThrees_18 : decode cX10_wrongThrees 18 = .ok (.iconst 3, 1) := by decide +kernel
theorem dX10_wrongThrees_19 : decode cX10_wrongThrees 19 = .ok (.irem, 1) := by decide +kernel
theorem dX10_wrongThrees_20 : decode cX10_wrongThrees 20 = .ok (.ifCond .ne 7, 3) := by decide +kernel
theorem dX10_wrongThrees_23 : decode cX10_wrongThrees 23 = .ok (.iconst 1, 1) := by decide +kernel
theorem dX10_wrongThrees_24 : decode cX10_wrongThrees 24 = .ok (.goto 4, 3) := by decide +kernel
theorem dX10_wrongThrees_27 : decode cX10_wrongThrees 27 = .ok (.iconst 0, 1) := by decide +kernel
theorem dX10_wrongThrees_28 : decode cX10_wrongThrees 28 = .ok (.istore_n 3, 1) := by decide +kernel
theorem dX10_wrongThrees_29 : decode cX10_wrongThrees 29 = .ok (.iconst 0, 1) := by decide +kernel
theorem dX10_wrongThrees_30 : decode cX10_wrongThrees 30 = .ok (.istore 4, 2) := by decide +kernel
theorem dX10_wrongThrees_32 : decode cX10_wrongThrees 32 = .ok (.iload 4, 2) := by decide +kernel
theorem dX10_wrongThrees_34 : decode cX10_wrongThrees 34 = .ok (.iconst 2, 1) := by decide +kernel
theorem dX10_wrongThrees_35 : decode cX10_wrongThrees 35 = .ok (.iadd, 1) := by decide +kernel
theorem dX10_wrongThrees_36 : decode cX10_wrongThrees 36 = .ok (.aload_n 0, 1) := by decide +kernel
theorem dX10_wrongThrees_37 : decode cX10_wrongThrees 37 = .ok (.getfield 38, 3) := by decide +kernel
theorem dX10_wrongThrees_40 : decode cX10_wrongThrees 40 = .ok (.iload_n 1, 1) := by decide +kernel
theorem dX10_wrongThrees_41 : decode cX10_wrongThrees 41 = .ok (.iaload, 1) := by decide +kernel
theorem dX10_wrongThrees_42 : decode cX10_wrongThrees 42 = .ok (.if_icmp .ge 82, 3) := by decide +kernel
theorem dX10_wrongThrees_45 : decode cX10_wrongThrees 45 = .ok (.iload_n 3, 1) := by decide +kernel
theorem dX10_wrongThrees_46 : decode cX10_wrongThrees 46 = .ok (.ifCond .eq 78, 3) := by decide +kernel
theorem dX10_wrongThrees_49 : decode cX10_wrongThrees 49 = .ok (.aload_n 0, 1) := by decide +kernel
theorem dX10_wrongThrees_50 : decode cX10_wrongThrees 50 = .ok (.getfield 41, 3) := by decide +kernel
theorem dX10_wrongThrees_53 : decode cX10_wrongThrees 53 = .ok (.bipush 100, 2) := by decide +kernel
theorem dX10_wrongThrees_55 : decode cX10_wrongThrees 55 = .ok (.iload_n 1, 1) := by decide +kernel
theorem dX10_wrongThrees_56 : decode cX10_wrongThrees 56 = .ok (.imul, 1) := by decide +kernel
theorem dX10_wrongThrees_57 : decode cX10_wrongThrees 57 = .ok (.iload 4, 2) := by decide +kernel
theorem dX10_wrongThrees_59 : decode cX10_wrongThrees 59 = .ok (.iadd, 1) := by decide +kernel
theorem dX10_wrongThrees_60 : decode cX10_wrongThrees 60 = .ok (.laload, 1) := by decide +kernel
theorem dX10_wrongThrees_61 : decode cX10_wrongThrees 61 = .ok (.lstore 5, 2) := by decide +kernel
theorem dX10_wrongThrees_63 : decode cX10_wrongThrees 63 = .ok (.aload_n 0, 1) := by decide +kernel
theorem dX10_wrongThrees_64 : decode cX10_wrongThrees 64 = .ok (.getfield 41, 3) := by decide +kernel
theorem dX10_wrongThrees_67 : decode cX10_wrongThrees 67 = .ok (.bipush 100, 2) := by decide +kernel
theorem dX10_wrongThrees_69 : decode cX10_wrongThrees 69 = .ok (.iload_n 1, 1) := by decide +kernel
theorem dX10_wrongThrees_70 : decode cX10_wrongThrees 70 = .ok (.imul, 1) := by decide +kernel
theorem dX10_wrongThrees_71 : decode cX10_wrongThrees 71 = .ok (.iload 4, 2) := by decide +kernel
theorem dX10_wrongThrees_73 : decode cX10_wrongThrees 73 = .ok (.iadd, 1) := by decide +kernel
theorem dX10_wrongThrees_74 : decode cX10_wrongThrees 74 = .ok (.iconst 1, 1) := by decide +kernel
theorem dX10_wrongThrees_75 : decode cX10_wrongThrees 75 = .ok (.iadd, 1) := by decide +kernel
theorem dX10_wrongThrees_76 : decode cX10_wrongThrees 76 = .ok (.laload, 1) := by decide +kernel
theorem dX10_wrongThrees_77 : decode cX10_wrongThrees 77 = .ok (.lstore 7, 2) := by decide +kernel
theorem dX10_wrongThrees_79 : decode cX10_wrongThrees 79 = .ok (.lload 5, 2) := by decide +kernel
theorem dX10_wrongThrees_81 : decode cX10_wrongThrees 81 = .ok (.lconst 0, 1) := by decide +kernel
theorem dX10_wrongThrees_82 : decode cX10_wrongThrees 82 = .ok (.aload_n 0, 1) := by decide +kernel
theorem dX10_wrongThrees_83 : decode cX10_wrongThrees 83 = .ok (.getfield 81, 3) := by decide +kernel
theorem dX10_wrongThrees_86 : decode cX10_wrongThrees 86 = .ok (.iconst 1, 1) := by decide +kernel
theorem dX10_wrongThrees_87 : decode cX10_wrongThrees 87 = .ok (.isub, 1) := by decide +kernel
theorem dX10_wrongThrees_88 : decode cX10_wrongThrees 88 = .ok (.i2l, 1) := by decide +kernel
theorem dX10_wrongThrees_89 : decode cX10_wrongThrees 89 = .ok (.invokestatic 84, 3) := by decide +kernel
theorem dX10_wrongThrees_92 : decode cX10_wrongThrees 92 = .ok (.ifCond .eq 24, 3) := by decide +kernel
theorem dX10_wrongThrees_95 : decode cX10_wrongThrees 95 = .ok (.lload 7, 2) := by decide +kernel
theorem dX10_wrongThrees_97 : decode cX10_wrongThrees 97 = .ok (.lload 5, 2) := by decide +kernel
theorem dX10_wrongThrees_99 : decode cX10_wrongThrees 99 = .ok (.aload_n 0, 1) := by decide +kernel
theorem dX10_wrongThrees_100 : decode cX10_wrongThrees 100 = .ok (.getfield 81, 3) := by decide +kernel
theorem dX10_wrongThrees_103 : decode cX10_wrongThrees 103 = .ok (.iconst 1, 1) := by decide +kernel
theorem dX10_wrongThrees_104 : decode cX10_wrongThrees 104 = .ok (.isub, 1) := by decide +kernel
theorem dX10_wrongThrees_105 : decode cX10_wrongThrees 105 = .ok (.i2l, 1) := by decide +kernel
theorem dX10_wrongThrees_106 : decode cX10_wrongThrees 106 = .ok (.invokestatic 84, 3) := by decide +kernel
theorem dX10_wrongThrees_109 : decode cX10_wrongThrees 109 = .ok (.ifCond .eq 7, 3) := by decide +kernel
theorem dX10_wrongThrees_112 : decode cX10_wrongThrees 112 = .ok (.iconst 1, 1) := by decide +kernel
theorem dX10_wrongThrees_113 : decode cX10_wrongThrees 113 = .ok (.goto 4, 3) := by decide +kernel
theorem dX10_wrongThrees_116 : decode cX10_wrongThrees 116 = .ok (.iconst 0, 1) := by decide +kernel
theorem dX10_wrongThrees_117 : decode cX10_wrongThrees 117 = .ok (.istore_n 3, 1) := by decide +kernel
theorem dX10_wrongThrees_118 : decode cX10_wrongThrees 118 = .ok (.iinc 4 3, 3) := by decide +kernel
theorem dX10_wrongThrees_121 : decode cX10_wrongThrees 121 = .ok (.goto (-89), 3) := by decide +kernel
theorem dX10_wrongThrees_124 : decode cX10_wrongThrees 124 = .ok (.iload_n 3, 1) := by decide +kernel
theorem dX10_wrongThrees_125 : decode cX10_wrongThrees 125 = .ok (.ifCond .eq 7, 3) := by decide +kernel
theorem dX10_wrongThrees_128 : decode cX10_wrongThrees 128 = .ok (.iconst 0, 1) := by decide +kernel
theorem dX10_wrongThrees_129 : decode cX10_wrongThrees 129 = .ok (.goto 5, 3) := by decide +kernel
theorem dX10_wrongThrees_132 : decode cX10_wrongThrees 132 = .ok (.bipush (-13), 2) := by decide +kernel
theorem dX10_wrongThrees_134 : decode cX10_wrongThrees 134 = .ok (.ireturn, 1) := by decide +kernel
theorem dX10_isSuspect_0 : decode cX10_isSuspect 0 = .ok (.iconst 1, 1) := by decide +kernel
theorem dX10_isSuspect_1 : decode cX10_isSuspect 1 = .ok (.istore_n 3, 1) := by decide +kernel
theorem dX10_isSuspect_2 : decode cX10_isSuspect 2 = .ok (.iconst 0, 1) := by decide +kernel
theorem dX10_isSuspect_3 : decode cX10_isSuspect 3 = .ok (.istore 4, 2) := by decide +kernel
theorem dX10_isSuspect_5 : decode cX10_isSuspect 5 = .ok (.iload 4, 2) := by decide +kernel
theorem dX10_isSuspect_7 : decode cX10_isSuspect 7 = .ok (.aload_n 0, 1) := by decide +kernel
theorem dX10_isSuspect_8 : decode cX10_isSuspect 8 = .ok (.getfield 38, 3) := by decide +kernel
theorem dX10_isSuspect_11 : decode cX10_isSuspect 11 = .ok (.iload_n 1, 1) := by decide +kernel
theorem dX10_isSuspect_12 : decode cX10_isSuspect 12 = .ok (.iaload, 1) := by decide +kernel
theorem dX10_isSuspect_13 : decode cX10_isSuspect 13 = .ok (.if_icmp .ge 105, 3) := by decide +kernel
theorem dX10_isSuspect_16 : decode cX10_isSuspect 16 = .ok (.iload_n 3, 1) := by decide +kernel
theorem dX10_isSuspect_17 : decode cX10_isSuspect 17 = .ok (.ifCond .eq 101, 3) := by decide +kernel
theorem dX10_isSuspect_20 : decode cX10_isSuspect 20 = .ok (.aload_n 0, 1) := by decide +kernel
theorem dX10_isSuspect_21 : decode cX10_isSuspect 21 = .ok (.getfield 41, 3) := by decide +kernel
theorem dX10_isSuspect_24 : decode cX10_isSuspect 24 = .ok (.bipush 100, 2) := by decide +kernel
theorem dX10_isSuspect_26 : decode cX10_isSuspect 26 = .ok (.iload_n 1, 1) := by decide +kernel
theorem dX10_isSuspect_27 : decode cX10_isSuspect 27 = .ok (.imul, 1) := by decide +kernel
theorem dX10_isSuspect_28 : decode cX10_isSuspect 28 = .ok (.iload 4, 2) := by decide +kernel
theorem dX10_isSuspect_30 : decode cX10_isSuspect 30 = .ok (.iadd, 1) := by decide +kernel
theorem dX10_isSuspect_31 : decode cX10_isSuspect 31 = .ok (.laload, 1) := by decide +kernel
theorem dX10_isSuspect_32 : decode cX10_isSuspect 32 = .ok (.l2i, 1) := by decide +kernel
theorem dX10_isSuspect_33 : decode cX10_isSuspect 33 = .ok (.istore 5, 2) := by decide +kernel
theorem dX10_isSuspect_35 : decode cX10_isSuspect 35 = .ok (.aload_n 0, 1) := by decide +kernel
theorem dX10_isSuspect_36 : decode cX10_isSuspect 36 = .ok (.getfield 41, 3) := by decide +kernel
theorem dX10_isSuspect_39 : decode cX10_isSuspect 39 = .ok (.bipush 100, 2) := by decide +kernel
theorem dX10_isSuspect_41 : decode cX10_isSuspect 41 = .ok (.iload_n 1, 1) := by decide +kernel
theorem dX10_isSuspect_42 : decode cX10_isSuspect 42 = .ok (.imul, 1) := by decide +kernel
theorem dX10_isSuspect_43 : decode cX10_isSuspect 43 = .ok (.iload 4, 2) := by decide +kernel
theorem dX10_isSuspect_45 : decode cX10_isSuspect 45 = .ok (.iadd, 1) := by decide +kernel
theorem dX10_isSuspect_46 : decode cX10_isSuspect 46 = .ok (.iconst 1, 1) := by decide +kernel
theorem dX10_isSuspect_47 : decode cX10_isSuspect 47 = .ok (.iadd, 1) := by decide +kernel
theorem dX10_isSuspect_48 : decode cX10_isSuspect 48 = .ok (.laload, 1) := by decide +kernel
theorem dX10_isSuspect_49 : decode cX10_isSuspect 49 = .ok (.l2i, 1) := by decide +kernel
theorem dX10_isSuspect_50 : decode cX10_isSuspect 50 = .ok (.istore 6, 2) := by decide +kernel
theorem dX10_isSuspect_52 : decode cX10_isSuspect 52 = .ok (.iconst 1, 1) := by decide +kernel
theorem dX10_isSuspect_53 : decode cX10_isSuspect 53 = .ok (.iload 6, 2) := by decide +kernel
theorem dX10_isSuspect_55 : decode cX10_isSuspect 55 = .ok (.iconst 1, 1) := by decide +kernel
theorem dX10_isSuspect_56 : decode cX10_isSuspect 56 = .ok (.iadd, 1) := by decide +kernel
theorem dX10_isSuspect_57 : decode cX10_isSuspect 57 = .ok (.ishl, 1) := by decide +kernel
theorem dX10_isSuspect_58 : decode cX10_isSuspect 58 = .ok (.iconst 1, 1) := by decide +kernel
theorem dX10_isSuspect_59 : decode cX10_isSuspect 59 = .ok (.iload 5, 2) := by decide +kernel
theorem dX10_isSuspect_61 : decode cX10_isSuspect 61 = .ok (.ishl, 1) := by decide +kernel
theorem dX10_isSuspect_62 : decode cX10_isSuspect 62 = .ok (.isub, 1) := by decide +kernel
theorem dX10_isSuspect_63 : decode cX10_isSuspect 63 = .ok (.istore 7, 2) := by decide +kernel
theorem dX10_isSuspect_65 : decode cX10_isSuspect 65 = .ok (.iload_n 2, 1) := by decide +kernel
theorem dX10_isSuspect_66 : decode cX10_isSuspect 66 = .ok (.iload 7, 2) := by decide +kernel
theorem dX10_isSuspect_68 : decode cX10_isSuspect 68 = .ok (.iconst (-1), 1) := by decide +kernel
theorem dX10_isSuspect_69 : decode cX10_isSuspect 69 = .ok (.ixor, 1) := by decide +kernel
theorem dX10_isSuspect_70 : decode cX10_isSuspect 70 = .ok (.iand, 1) := by decide +kernel
theorem dX10_isSuspect_71 : decode cX10_isSuspect 71 = .ok (.ifCond .ne 7, 3) := by decide +kernel
theorem dX10_isSuspect_74 : decode cX10_isSuspect 74 = .ok (.iconst 1, 1) := by decide +kernel
theorem dX10_isSuspect_75 : decode cX10_isSuspect 75 = .ok (.goto 4, 3) := by decide +kernel
theorem dX10_isSuspect_78 : decode cX10_isSuspect 78 = .ok (.iconst 0, 1) := by decide +kernel
theorem dX10_isSuspect_79 : decode cX10_isSuspect 79 = .ok (.aload_n 0, 1) := by decide +kernel
theorem dX10_isSuspect_80 : decode cX10_isSuspect 80 = .ok (.getfield 41, 3) := by decide +kernel
theorem dX10_isSuspect_83 : decode cX10_isSuspect 83 = .ok (.bipush 100, 2) := by decide +kernel
theorem dX10_isSuspect_85 : decode cX10_isSuspect 85 = .ok (.iload_n 1, 1) := by decide +kernel
theorem dX10_isSuspect_86 : decode cX10_isSuspect 86 = .ok (.imul, 1) := by decide +kernel
theorem dX10_isSuspect_87 : decode cX10_isSuspect 87 = .ok (.iload 4, 2) := by decide +kernel
theorem dX10_isSuspect_89 : decode cX10_isSuspect 89 = .ok (.iadd, 1) := by decide +kernel
theorem dX10_isSuspect_90 : decode cX10_isSuspect 90 = .ok (.iconst 2, 1) := by decide +kernel
theorem dX10_isSuspect_91 : decode cX10_isSuspect 91 = .ok (.iadd, 1) := by decide +kernel
theorem dX10_isSuspect_92 : decode cX10_isSuspect 92 = .ok (.laload, 1) := by decide +kernel
theorem dX10_isSuspect_93 : decode cX10_isSuspect 93 = .ok (.lconst 1, 1) := by decide +kernel
theorem dX10_isSuspect_94 : decode cX10_isSuspect 94 = .ok (.lcmp, 1) := by decide +kernel
theorem dX10_isSuspect_95 : decode cX10_isSuspect 95 = .ok (.ifCond .ne 7, 3) := by decide +kernel
theorem dX10_isSuspect_98 : decode cX10_isSuspect 98 = .ok (.iconst 1, 1) := by decide +kernel
theorem dX10_isSuspect_99 : decode cX10_isSuspect 99 = .ok (.goto 4, 3) := by decide +kernel
theorem dX10_isSuspect_102 : decode cX10_isSuspect 102 = .ok (.iconst 0, 1) := by decide +kernel
theorem dX10_isSuspect_103 : decode cX10_isSuspect 103 = .ok (.if_icmp .ne 7, 3) := by decide +kernel
theorem dX10_isSuspect_106 : decode cX10_isSuspect 106 = .ok (.iconst 1, 1) := by decide +kernel
theorem dX10_isSuspect_107 : decode cX10_isSuspect 107 = .ok (.goto 4, 3) := by decide +kernel
theorem dX10_isSuspect_110 : decode cX10_isSuspect 110 = .ok (.iconst 0, 1) := by decide +kernel
theorem dX10_isSuspect_111 : decode cX10_isSuspect 111 = .ok (.istore_n 3, 1) := by decide +kernel
theorem dX10_isSuspect_112 : decode cX10_isSuspect 112 = .ok (.iinc 4 3, 3) := by decide +kernel
theorem dX10_isSuspect_115 : decode cX10_isSuspect 115 = .ok (.goto (-110), 3) := by decide +kernel
theorem dX10_isSuspect_118 : decode cX10_isSuspect 118 = .ok (.iload_n 3, 1) := by decide +kernel
theorem dX10_isSuspect_119 : decode cX10_isSuspect 119 = .ok (.ireturn, 1) := by decide +kernel
theorem dX10_suspects_0 : decode cX10_suspects 0 = .ok (.aload_n 0, 1) := by decide +kernel
theorem dX10_suspects_1 : decode cX10_suspects 1 = .ok (.iconst 0, 1) := by decide +kernel
theorem dX10_suspects_2 : decode cX10_suspects 2 = .ok (.putfield 78, 3) := by decide +kernel
theorem dX10_suspects_5 : decode cX10_suspects 5 = .ok (.iload_n 2, 1) := by decide +kernel
theorem dX10_suspects_6 : decode cX10_suspects 6 = .ok (.i2l, 1) := by decide +kernel
theorem dX10_suspects_7 : decode cX10_suspects 7 = .ok (.lconst 0, 1) := by decide +kernel
theorem dX10_suspects_8 : decode cX10_suspects 8 = .ok (.lconst 1, 1) := by decide +kernel
theorem dX10_suspects_9 : decode cX10_suspects 9 = .ok (.invokestatic 84, 3) := by decide +kernel
theorem dX10_suspects_12 : decode cX10_suspects 12 = .ok (.ifCond .eq 11, 3) := by decide +kernel
theorem dX10_suspects_15 : decode cX10_suspects 15 = .ok (.aload_n 0, 1) := by decide +kernel
theorem dX10_suspects_16 : decode cX10_suspects 16 = .ok (.iload_n 1, 1) := by decide +kernel
theorem dX10_suspects_17 : decode cX10_suspects 17 = .ok (.invokevirtual 323, 3) := by decide +kernel
theorem dX10_suspects_20 : decode cX10_suspects 20 = .ok (.goto 4, 3) := by decide +kernel
theorem dX10_suspects_23 : decode cX10_suspects 23 = .ok (.iconst (-1), 1) := by decide +kernel
theorem dX10_suspects_24 : decode cX10_suspects 24 = .ok (.istore_n 3, 1) := by decide +kernel
theorem dX10_suspects_25 : decode cX10_suspects 25 = .ok (.iload_n 3, 1) := by decide +kernel
theorem dX10_suspects_26 : decode cX10_suspects 26 = .ok (.ifCond .ge 5, 3) := by decide +kernel
theorem dX10_suspects_29 : decode cX10_suspects 29 = .ok (.iload_n 3, 1) := by decide +kernel
theorem dX10_suspects_30 : decode cX10_suspects 30 = .ok (.ireturn, 1) := by decide +kernel
theorem dX10_suspects_31 : decode cX10_suspects 31 = .ok (.iconst 0, 1) := by decide +kernel
theorem dX10_suspects_32 : decode cX10_suspects 32 = .ok (.istore 4, 2) := by decide +kernel
theorem dX10_suspects_34 : decode cX10_suspects 34 = .ok (.iconst 0, 1) := by decide +kernel
theorem dX10_suspects_35 : decode cX10_suspects 35 = .ok (.istore 5, 2) := by decide +kernel
theorem dX10_suspects_37 : decode cX10_suspects 37 = .ok (.iconst 0, 1) := by decide +kernel
theorem dX10_suspects_38 : decode cX10_suspects 38 = .ok (.istore 6, 2) := by decide +kernel
theorem dX10_suspects_40 : decode cX10_suspects 40 = .ok (.iload 6, 2) := by decide +kernel
theorem dX10_suspects_42 : decode cX10_suspects 42 = .ok (.aload_n 0, 1) := by decide +kernel
theorem dX10_suspects_43 : decode cX10_suspects 43 = .ok (.getfield 81, 3) := by decide +kernel
theorem dX10_suspects_46 : decode cX10_suspects 46 = .ok (.if_icmp .ge 82, 3) := by decide +kernel
theorem dX10_suspects_49 : decode cX10_suspects 49 = .ok (.iload 4, 2) := by decide +kernel
theorem dX10_suspects_51 : decode cX10_suspects 51 = .ok (.aload_n 0, 1) := by decide +kernel
theorem dX10_suspects_52 : decode cX10_suspects 52 = .ok (.iload_n 1, 1) := by decide +kernel
theorem dX10_suspects_53 : decode cX10_suspects 53 = .ok (.iconst 1, 1) := by decide +kernel
theorem dX10_suspects_54 : decode cX10_suspects 54 = .ok (.iload 6, 2) := by decide +kernel
theorem dX10_suspects_56 : decode cX10_suspects 56 = .ok (.ishl, 1) := by decide +kernel
theorem dX10_suspects_57 : decode cX10_suspects 57 = .ok (.invokevirtual 326, 3) := by decide +kernel
theorem dX10_suspects_60 : decode cX10_suspects 60 = .ok (.ifCond .eq 10, 3) := by decide +kernel
theorem dX10_suspects_63 : decode cX10_suspects 63 = .ok (.iconst 1, 1) := by decide +kernel
theorem dX10_suspects_64 : decode cX10_suspects 64 = .ok (.iload 6, 2) := by decide +kernel
theorem dX10_suspects_66 : decode cX10_suspects 66 = .ok (.ishl, 1) := by decide +kernel
theorem dX10_suspects_67 : decode cX10_suspects 67 = .ok (.goto 4, 3) := by decide +kernel
theorem dX10_suspects_70 : decode cX10_suspects 70 = .ok (.iconst 0, 1) := by decide +kernel
theorem dX10_suspects_71 : decode cX10_suspects 71 = .ok (.ior, 1) := by decide +kernel
theorem dX10_suspects_72 : decode cX10_suspects 72 = .ok (.istore 4, 2) := by decide +kernel
theorem dX10_suspects_74 : decode cX10_suspects 74 = .ok (.iload 6, 2) := by decide +kernel
theorem dX10_suspects_76 : decode cX10_suspects 76 = .ok (.iconst 1, 1) := by decide +kernel
theorem dX10_suspects_77 : decode cX10_suspects 77 = .ok (.iadd, 1) := by decide +kernel
theorem dX10_suspects_78 : decode cX10_suspects 78 = .ok (.istore 7, 2) := by decide +kernel
theorem dX10_suspects_80 : decode cX10_suspects 80 = .ok (.iload 7, 2) := by decide +kernel
theorem dX10_suspects_82 : decode cX10_suspects 82 = .ok (.aload_n 0, 1) := by decide +kernel
theorem dX10_suspects_83 : decode cX10_suspects 83 = .ok (.getfield 81, 3) := by decide +kernel
theorem dX10_suspects_86 : decode cX10_suspects 86 = .ok (.if_icmp .ge 36, 3) := by decide +kernel
theorem dX10_suspects_89 : decode cX10_suspects 89 = .ok (.iload 5, 2) := by decide +kernel
theorem dX10_suspects_91 : decode cX10_suspects 91 = .ok (.aload_n 0, 1) := by decide +kernel
theorem dX10_suspects_92 : decode cX10_suspects 92 = .ok (.iload_n 1, 1) := by decide +kernel
theorem dX10_suspects_93 : decode cX10_suspects 93 = .ok (.iconst 1, 1) := by decide +kernel
theorem dX10_suspects_94 : decode cX10_suspects 94 = .ok (.iload 6, 2) := by decide +kernel
theorem dX10_suspects_96 : decode cX10_suspects 96 = .ok (.ishl, 1) := by decide +kernel
theorem dX10_suspects_97 : decode cX10_suspects 97 = .ok (.iconst 1, 1) := by decide +kernel
theorem dX10_suspects_98 : decode cX10_suspects 98 = .ok (.iload 7, 2) := by decide +kernel
theorem dX10_suspects_100 : decode cX10_suspects 100 = .ok (.ishl, 1) := by decide +kernel
theorem dX10_suspects_101 : decode cX10_suspects 101 = .ok (.ior, 1) := by decide +kernel
theorem dX10_suspects_102 : decode cX10_suspects 102 = .ok (.invokevirtual 326, 3) := by decide +kernel
theorem dX10_suspects_105 : decode cX10_suspects 105 = .ok (.ifCond .eq 7, 3) := by decide +kernel
theorem dX10_suspects_108 : decode cX10_suspects 108 = .ok (.iconst 1, 1) := by decide +kernel
theorem dX10_suspects_109 : decode cX10_suspects 109 = .ok (.goto 4, 3) := by decide +kernel
theorem dX10_suspects_112 : decode cX10_suspects 112 = .ok (.iconst 0, 1) := by decide +kernel
theorem dX10_suspects_113 : decode cX10_suspects 113 = .ok (.iadd, 1) := by decide +kernel
theorem dX10_suspects_114 : decode cX10_suspects 114 = .ok (.istore 5, 2) := by decide +kernel
theorem dX10_suspects_116 : decode cX10_suspects 116 = .ok (.iinc 7 1, 3) := by decide +kernel
theorem dX10_suspects_119 : decode cX10_suspects 119 = .ok (.goto (-39), 3) := by decide +kernel
theorem dX10_suspects_122 : decode cX10_suspects 122 = .ok (.iinc 6 1, 3) := by decide +kernel
theorem dX10_suspects_125 : decode cX10_suspects 125 = .ok (.goto (-85), 3) := by decide +kernel
theorem dX10_suspects_128 : decode cX10_suspects 128 = .ok (.iload_n 2, 1) := by decide +kernel
theorem dX10_suspects_129 : decode cX10_suspects 129 = .ok (.ifCond .ne 8, 3) := by decide +kernel
theorem dX10_suspects_132 : decode cX10_suspects 132 = .ok (.iload 4, 2) := by decide +kernel
theorem dX10_suspects_134 : decode cX10_suspects 134 = .ok (.goto 5, 3) := by decide +kernel
theorem dX10_suspects_137 : decode cX10_suspects 137 = .ok (.iload 5, 2) := by decide +kernel
theorem dX10_suspects_139 : decode cX10_suspects 139 = .ok (.ireturn, 1) := by decide +kernel
theorem dX10_changeOut_0 : decode cX10_changeOut 0 = .ok (.iload_n 1, 1) := by decide +kernel
theorem dX10_changeOut_1 : decode cX10_changeOut 1 = .ok (.istore_n 2, 1) := by decide +kernel
theorem dX10_changeOut_2 : decode cX10_changeOut 2 = .ok (.iconst 0, 1) := by decide +kernel
theorem dX10_changeOut_3 : decode cX10_changeOut 3 = .ok (.istore_n 3, 1) := by decide +kernel
theorem dX10_changeOut_4 : decode cX10_changeOut 4 = .ok (.iload_n 3, 1) := by decide +kernel
theorem dX10_changeOut_5 : decode cX10_changeOut 5 = .ok (.aload_n 0, 1) := by decide +kernel
theorem dX10_changeOut_6 : decode cX10_changeOut 6 = .ok (.getfield 81, 3) := by decide +kernel
theorem dX10_changeOut_9 : decode cX10_changeOut 9 = .ok (.if_icmp .ge 32, 3) := by decide +kernel
theorem dX10_changeOut_12 : decode cX10_changeOut 12 = .ok (.aload_n 0, 1) := by decide +kernel
theorem dX10_changeOut_13 : decode cX10_changeOut 13 = .ok (.getfield 88, 3) := by decide +kernel
theorem dX10_changeOut_16 : decode cX10_changeOut 16 = .ok (.iload_n 3, 1) := by decide +kernel
theorem dX10_changeOut_17 : decode cX10_changeOut 17 = .ok (.invokestatic 91, 3) := by decide +kernel
theorem dX10_changeOut_20 : decode cX10_changeOut 20 = .ok (.ifCond .ne 15, 3) := by decide +kernel
theorem dX10_changeOut_23 : decode cX10_changeOut 23 = .ok (.iload_n 2, 1) := by decide +kernel
theorem dX10_changeOut_24 : decode cX10_changeOut 24 = .ok (.ifCond .le 11, 3) := by decide +kernel
theorem dX10_changeOut_27 : decode cX10_changeOut 27 = .ok (.aload_n 0, 1) := by decide +kernel
theorem dX10_changeOut_28 : decode cX10_changeOut 28 = .ok (.iload_n 3, 1) := by decide +kernel
theorem dX10_changeOut_29 : decode cX10_changeOut 29 = .ok (.invokevirtual 158, 3) := by decide +kernel
theorem dX10_changeOut_32 : decode cX10_changeOut 32 = .ok (.iinc 2 (-1), 3) := by decide +kernel
theorem dX10_changeOut_35 : decode cX10_changeOut 35 = .ok (.iinc 3 1, 3) := by decide +kernel
theorem dX10_changeOut_38 : decode cX10_changeOut 38 = .ok (.goto (-34), 3) := by decide +kernel
theorem dX10_changeOut_41 : decode cX10_changeOut 41 = .ok (.iload_n 2, 1) := by decide +kernel
theorem dX10_changeOut_42 : decode cX10_changeOut 42 = .ok (.ireturn, 1) := by decide +kernel
theorem dX10_buy_0 : decode cX10_buy 0 = .ok (.aload_n 0, 1) := by decide +kernel
theorem dX10_buy_1 : decode cX10_buy 1 = .ok (.iconst 0, 1) := by decide +kernel
theorem dX10_buy_2 : decode cX10_buy 2 = .ok (.putfield 78, 3) := by decide +kernel
theorem dX10_buy_5 : decode cX10_buy 5 = .ok (.iload_n 1, 1) := by decide +kernel
theorem dX10_buy_6 : decode cX10_buy 6 = .ok (.i2l, 1) := by decide +kernel
theorem dX10_buy_7 : decode cX10_buy 7 = .ok (.lconst 0, 1) := by decide +kernel
theorem dX10_buy_8 : decode cX10_buy 8 = .ok (.ldc2_w 202, 3) := by decide +kernel
theorem dX10_buy_11 : decode cX10_buy 11 = .ok (.invokestatic 84, 3) := by decide +kernel
theorem dX10_buy_14 : decode cX10_buy 14 = .ok (.ifCond .ne 5, 3) := by decide +kernel
theorem dX10_buy_17 : decode cX10_buy 17 = .ok (.iconst (-1), 1) := by decide +kernel
theorem dX10_buy_18 : decode cX10_buy 18 = .ok (.ireturn, 1) := by decide +kernel
theorem dX10_buy_19 : decode cX10_buy 19 = .ok (.bipush (-4), 2) := by decide +kernel
theorem dX10_buy_21 : decode cX10_buy 21 = .ok (.istore_n 2, 1) := by decide +kernel
theorem dX10_buy_22 : decode cX10_buy 22 = .ok (.aload_n 0, 1) := by decide +kernel
theorem dX10_buy_23 : decode cX10_buy 23 = .ok (.invokevirtual 225, 3) := by decide +kernel
theorem dX10_buy_26 : decode cX10_buy 26 = .ok (.iconst 0, 1) := by decide +kernel
theorem dX10_buy_27 : decode cX10_buy 27 = .ok (.istore_n 3, 1) := by decide +kernel
theorem dX10_buy_28 : decode cX10_buy 28 = .ok (.iload_n 3, 1) := by decide +kernel
theorem dX10_buy_29 : decode cX10_buy 29 = .ok (.bipush 9, 2) := by decide +kernel
theorem dX10_buy_31 : decode cX10_buy 31 = .ok (.if_icmp .gt 69, 3) := by decide +kernel
theorem dX10_buy_34 : decode cX10_buy 34 = .ok (.iload_n 2, 1) := by decide +kernel
theorem dX10_buy_35 : decode cX10_buy 35 = .ok (.ifCond .ge 65, 3) := by decide +kernel
theorem dX10_buy_38 : decode cX10_buy 38 = .ok (.iload_n 3, 1) := by decide +kernel
theorem dX10_buy_39 : decode cX10_buy 39 = .ok (.istore 4, 2) := by decide +kernel
theorem dX10_buy_41 : decode cX10_buy 41 = .ok (.iconst 1, 1) := by decide +kernel
theorem dX10_buy_42 : decode cX10_buy 42 = .ok (.istore 5, 2) := by decide +kernel
theorem dX10_buy_44 : decode cX10_buy 44 = .ok (.iconst 0, 1) := by decide +kernel
theorem dX10_buy_45 : decode cX10_buy 45 = .ok (.istore 6, 2) := by decide +kernel
theorem dX10_buy_47 : decode cX10_buy 47 = .ok (.iload 6, 2) := by decide +kernel
theorem dX10_buy_49 : decode cX10_buy 49 = .ok (.iload_n 1, 1) := by decide +kernel
theorem dX10_buy_50 : decode cX10_buy 50 = .ok (.if_icmp .ge 28, 3) := by decide +kernel
theorem dX10_buy_53 : decode cX10_buy 53 = .ok (.iload 5, 2) := by decide +kernel
theorem dX10_buy_55 : decode cX10_buy 55 = .ok (.ifCond .eq 23, 3) := by decide +kernel
theorem dX10_buy_58 : decode cX10_buy 58 = .ok (.aload_n 0, 1) := by decide +kernel
theorem dX10_buy_59 : decode cX10_buy 59 = .ok (.iload 4, 2) := by decide +kernel
theorem dX10_buy_61 : decode cX10_buy 61 = .ok (.invokevirtual 329, 3) := by decide +kernel
theorem dX10_buy_64 : decode cX10_buy 64 = .ok (.istore 4, 2) := by decide +kernel
theorem dX10_buy_66 : decode cX10_buy 66 = .ok (.aload_n 0, 1) := by decide +kernel
theorem dX10_buy_67 : decode cX10_buy 67 = .ok (.invokevirtual 134, 3) := by decide +kernel
theorem dX10_buy_70 : decode cX10_buy 70 = .ok (.istore 5, 2) := by decide +kernel
theorem dX10_buy_72 : decode cX10_buy 72 = .ok (.iinc 6 1, 3) := by decide +kernel
theorem dX10_buy_75 : decode cX10_buy 75 = .ok (.goto (-28), 3) := by decide +kernel
theorem dX10_buy_78 : decode cX10_buy 78 = .ok (.aload_n 0, 1) := by decide +kernel
theorem dX10_buy_79 : decode cX10_buy 79 = .ok (.invokevirtual 231, 3) := by decide +kernel
theorem dX10_buy_82 : decode cX10_buy 82 = .ok (.iload 5, 2) := by decide +kernel
theorem dX10_buy_84 : decode cX10_buy 84 = .ok (.ifCond .eq 7, 3) := by decide +kernel
theorem dX10_buy_87 : decode cX10_buy 87 = .ok (.iload_n 3, 1) := by decide +kernel
theorem dX10_buy_88 : decode cX10_buy 88 = .ok (.goto 5, 3) := by decide +kernel
theorem dX10_buy_91 : decode cX10_buy 91 = .ok (.bipush (-4), 2) := by decide +kernel
theorem dX10_buy_93 : decode cX10_buy 93 = .ok (.istore_n 2, 1) := by decide +kernel
theorem dX10_buy_94 : decode cX10_buy 94 = .ok (.iinc 3 1, 3) := by decide +kernel
theorem dX10_buy_97 : decode cX10_buy 97 = .ok (.goto (-69), 3) := by decide +kernel
theorem dX10_buy_100 : decode cX10_buy 100 = .ok (.iload_n 2, 1) := by decide +kernel
theorem dX10_buy_101 : decode cX10_buy 101 = .ok (.ireturn, 1) := by decide +kernel
theorem dX10_lightOf_0 : decode cX10_lightOf 0 = .ok (.aload_n 0, 1) := by decide +kernel
theorem dX10_lightOf_1 : decode cX10_lightOf 1 = .ok (.iload_n 1, 1) := by decide +kernel
theorem dX10_lightOf_2 : decode cX10_lightOf 2 = .ok (.putfield 125, 3) := by decide +kernel
theorem dX10_lightOf_5 : decode cX10_lightOf 5 = .ok (.aload_n 0, 1) := by decide +kernel
theorem dX10_lightOf_6 : decode cX10_lightOf 6 = .ok (.iconst 0, 1) := by decide +kernel
theorem dX10_lightOf_7 : decode cX10_lightOf 7 = .ok (.putfield 116, 3) := by decide +kernel
theorem dX10_lightOf_10 : decode cX10_lightOf 10 = .ok (.aload_n 0, 1) := by decide +kernel
theorem dX10_lightOf_11 : decode cX10_lightOf 11 = .ok (.invokevirtual 225, 3) := by decide +kernel
theorem dX10_lightOf_14 : decode cX10_lightOf 14 = .ok (.aload_n 0, 1) := by decide +kernel
theorem dX10_lightOf_15 : decode cX10_lightOf 15 = .ok (.iload_n 2, 1) := by decide +kernel
theorem dX10_lightOf_16 : decode cX10_lightOf 16 = .ok (.invokevirtual 204, 3) := by decide +kernel
theorem dX10_lightOf_19 : decode cX10_lightOf 19 = .ok (.aload_n 0, 1) := by decide +kernel
theorem dX10_lightOf_20 : decode cX10_lightOf 20 = .ok (.invokevirtual 231, 3) := by decide +kernel
theorem dX10_lightOf_23 : decode cX10_lightOf 23 = .ok (.aload_n 0, 1) := by decide +kernel
theorem dX10_lightOf_24 : decode cX10_lightOf 24 = .ok (.iconst 0, 1) := by decide +kernel
theorem dX10_lightOf_25 : decode cX10_lightOf 25 = .ok (.putfield 125, 3) := by decide +kernel
theorem dX10_lightOf_28 : decode cX10_lightOf 28 = .ok (.aload_n 0, 1) := by decide +kernel
theorem dX10_lightOf_29 : decode cX10_lightOf 29 = .ok (.getfield 116, 3) := by decide +kernel
theorem dX10_lightOf_32 : decode cX10_lightOf 32 = .ok (.ireturn, 1) := by decide +kernel
theorem dX10_light_0 : decode cX10_light 0 = .ok (.aload_n 0, 1) := by decide +kernel
theorem dX10_light_1 : decode cX10_light 1 = .ok (.iconst 0, 1) := by decide +kernel
theorem dX10_light_2 : decode cX10_light 2 = .ok (.putfield 78, 3) := by decide +kernel
theorem dX10_light_5 : decode cX10_light 5 = .ok (.iload_n 1, 1) := by decide +kernel
theorem dX10_light_6 : decode cX10_light 6 = .ok (.ifCond .lt 27, 3) := by decide +kernel
theorem dX10_light_9 : decode cX10_light 9 = .ok (.iload_n 1, 1) := by decide +kernel
theorem dX10_light_10 : decode cX10_light 10 = .ok (.ifCond .le 11, 3) := by decide +kernel
theorem dX10_light_13 : decode cX10_light 13 = .ok (.iload_n 1, 1) := by decide +kernel
theorem dX10_light_14 : decode cX10_light 14 = .ok (.aload_n 0, 1) := by decide +kernel
theorem dX10_light_15 : decode cX10_light 15 = .ok (.getfield 81, 3) := by decide +kernel
theorem dX10_light_18 : decode cX10_light 18 = .ok (.if_icmp .ge 15, 3) := by decide +kernel
theorem dX10_light_21 : decode cX10_light 21 = .ok (.iload_n 2, 1) := by decide +kernel
theorem dX10_light_22 : decode cX10_light 22 = .ok (.i2l, 1) := by decide +kernel
theorem dX10_light_23 : decode cX10_light 23 = .ok (.lconst 0, 1) := by decide +kernel
theorem dX10_light_24 : decode cX10_light 24 = .ok (.ldc2_w 332, 3) := by decide +kernel
theorem dX10_light_27 : decode cX10_light 27 = .ok (.invokestatic 84, 3) := by decide +kernel
theorem dX10_light_30 : decode cX10_light 30 = .ok (.ifCond .ne 7, 3) := by decide +kernel
theorem dX10_light_33 : decode cX10_light 33 = .ok (.iconst (-1), 1) := by decide +kernel
theorem dX10_light_34 : decode cX10_light 34 = .ok (.goto 9, 3) := by decide +kernel
theorem dX10_light_37 : decode cX10_light 37 = .ok (.aload_n 0, 1) := by decide +kernel
theorem dX10_light_38 : decode cX10_light 38 = .ok (.iload_n 1, 1) := by decide +kernel
theorem dX10_light_39 : decode cX10_light 39 = .ok (.iload_n 2, 1) := by decide +kernel
theorem dX10_light_40 : decode cX10_light 40 = .ok (.invokevirtual 334, 3) := by decide +kernel
theorem dX10_light_43 : decode cX10_light 43 = .ok (.ireturn, 1) := by decide +kernel
theorem dX10_split_0 : decode cX10_split 0 = .ok (.aload_n 0, 1) := by decide +kernel
theorem dX10_split_1 : decode cX10_split 1 = .ok (.iconst 0, 1) := by decide +kernel
theorem dX10_split_2 : decode cX10_split 2 = .ok (.putfield 78, 3) := by decide +kernel
theorem dX10_split_5 : decode cX10_split 5 = .ok (.iload_n 1, 1) := by decide +kernel
theorem dX10_split_6 : decode cX10_split 6 = .ok (.i2l, 1) := by decide +kernel
theorem dX10_split_7 : decode cX10_split 7 = .ok (.lconst 0, 1) := by decide +kernel
theorem dX10_split_8 : decode cX10_split 8 = .ok (.ldc2_w 332, 3) := by decide +kernel
theorem dX10_split_11 : decode cX10_split 11 = .ok (.invokestatic 84, 3) := by decide +kernel
theorem dX10_split_14 : decode cX10_split 14 = .ok (.ifCond .eq 13, 3) := by decide +kernel
theorem dX10_split_17 : decode cX10_split 17 = .ok (.iload_n 2, 1) := by decide +kernel
theorem dX10_split_18 : decode cX10_split 18 = .ok (.i2l, 1) := by decide +kernel
theorem dX10_split_19 : decode cX10_split 19 = .ok (.lconst 0, 1) := by decide +kernel
theorem dX10_split_20 : decode cX10_split 20 = .ok (.lconst 1, 1) := by decide +kernel
theorem dX10_split_21 : decode cX10_split 21 = .ok (.invokestatic 84, 3) := by decide +kernel
theorem dX10_split_24 : decode cX10_split 24 = .ok (.ifCond .ne 5, 3) := by decide +kernel
theorem dX10_split_27 : decode cX10_split 27 = .ok (.iconst (-1), 1) := by decide +kernel
theorem dX10_split_28 : decode cX10_split 28 = .ok (.ireturn, 1) := by decide +kernel
theorem dX10_split_29 : decode cX10_split 29 = .ok (.iconst 0, 1) := by decide +kernel
theorem dX10_split_30 : decode cX10_split 30 = .ok (.istore_n 3, 1) := by decide +kernel
theorem dX10_split_31 : decode cX10_split 31 = .ok (.iconst (-1), 1) := by decide +kernel
theorem dX10_split_32 : decode cX10_split 32 = .ok (.istore 4, 2) := by decide +kernel
theorem dX10_split_34 : decode cX10_split 34 = .ok (.iconst 0, 1) := by decide +kernel
theorem dX10_split_35 : decode cX10_split 35 = .ok (.istore 5, 2) := by decide +kernel
theorem dX10_split_37 : decode cX10_split 37 = .ok (.iload 5, 2) := by decide +kernel
theorem dX10_split_39 : decode cX10_split 39 = .ok (.ifCond .eq 12, 3) := by decide +kernel
theorem dX10_split_42 : decode cX10_split 42 = .ok (.iload 5, 2) := by decide +kernel
theorem dX10_split_44 : decode cX10_split 44 = .ok (.aload_n 0, 1) := by decide +kernel
theorem dX10_split_45 : decode cX10_split 45 = .ok (.getfield 81, 3) := by decide +kernel
theorem dX10_split_48 : decode cX10_split 48 = .ok (.if_icmp .ge 48, 3) := by decide +kernel
theorem dX10_split_51 : decode cX10_split 51 = .ok (.aload_n 0, 1) := by decide +kernel
theorem dX10_split_52 : decode cX10_split 52 = .ok (.iload 5, 2) := by decide +kernel
theorem dX10_split_54 : decode cX10_split 54 = .ok (.iload_n 1, 1) := by decide +kernel
theorem dX10_split_55 : decode cX10_split 55 = .ok (.invokevirtual 334, 3) := by decide +kernel
theorem dX10_split_58 : decode cX10_split 58 = .ok (.istore 6, 2) := by decide +kernel
theorem dX10_split_60 : decode cX10_split 60 = .ok (.iload 6, 2) := by decide +kernel
theorem dX10_split_62 : decode cX10_split 62 = .ok (.iload 4, 2) := by decide +kernel
theorem dX10_split_64 : decode cX10_split 64 = .ok (.if_icmp .le 8, 3) := by decide +kernel
theorem dX10_split_67 : decode cX10_split 67 = .ok (.iload 5, 2) := by decide +kernel
theorem dX10_split_69 : decode cX10_split 69 = .ok (.goto 4, 3) := by decide +kernel
theorem dX10_split_72 : decode cX10_split 72 = .ok (.iload_n 3, 1) := by decide +kernel
theorem dX10_split_73 : decode cX10_split 73 = .ok (.istore_n 3, 1) := by decide +kernel
theorem dX10_split_74 : decode cX10_split 74 = .ok (.iload 6, 2) := by decide +kernel
theorem dX10_split_76 : decode cX10_split 76 = .ok (.iload 4, 2) := by decide +kernel
theorem dX10_split_78 : decode cX10_split 78 = .ok (.if_icmp .le 8, 3) := by decide +kernel
theorem dX10_split_81 : decode cX10_split 81 = .ok (.iload 6, 2) := by decide +kernel
theorem dX10_split_83 : decode cX10_split 83 = .ok (.goto 5, 3) := by decide +kernel
theorem dX10_split_86 : decode cX10_split 86 = .ok (.iload 4, 2) := by decide +kernel
theorem dX10_split_88 : decode cX10_split 88 = .ok (.istore 4, 2) := by decide +kernel
theorem dX10_split_90 : decode cX10_split 90 = .ok (.iinc 5 1, 3) := by decide +kernel
theorem dX10_split_93 : decode cX10_split 93 = .ok (.goto (-56), 3) := by decide +kernel
theorem dX10_split_96 : decode cX10_split 96 = .ok (.iload_n 2, 1) := by decide +kernel
theorem dX10_split_97 : decode cX10_split 97 = .ok (.ifCond .ne 7, 3) := by decide +kernel
theorem dX10_split_100 : decode cX10_split 100 = .ok (.iload_n 3, 1) := by decide +kernel
theorem dX10_split_101 : decode cX10_split 101 = .ok (.goto 5, 3) := by decide +kernel
theorem dX10_split_104 : decode cX10_split 104 = .ok (.iload 4, 2) := by decide +kernel
theorem dX10_split_106 : decode cX10_split 106 = .ok (.ireturn, 1) := by decide +kernel
theorem dX10_beat_0 : decode cX10_beat 0 = .ok (.aload_n 0, 1) := by decide +kernel
theorem dX10_beat_1 : decode cX10_beat 1 = .ok (.iconst 0, 1) := by decide +kernel
theorem dX10_beat_2 : decode cX10_beat 2 = .ok (.putfield 78, 3) := by decide +kernel
theorem dX10_beat_5 : decode cX10_beat 5 = .ok (.aload_n 0, 1) := by decide +kernel
theorem dX10_beat_6 : decode cX10_beat 6 = .ok (.iload_n 1, 1) := by decide +kernel
theorem dX10_beat_7 : decode cX10_beat 7 = .ok (.invokevirtual 193, 3) := by decide +kernel
theorem dX10_beat_10 : decode cX10_beat 10 = .ok (.ifCond .eq 25, 3) := by decide +kernel
theorem dX10_beat_13 : decode cX10_beat 13 = .ok (.iload_n 2, 1) := by decide +kernel
theorem dX10_beat_14 : decode cX10_beat 14 = .ok (.i2l, 1) := by decide +kernel
theorem dX10_beat_15 : decode cX10_beat 15 = .ok (.lconst 0, 1) := by decide +kernel
theorem dX10_beat_16 : decode cX10_beat 16 = .ok (.ldc2_w 202, 3) := by decide +kernel
theorem dX10_beat_19 : decode cX10_beat 19 = .ok (.invokestatic 84, 3) := by decide +kernel
theorem dX10_beat_22 : decode cX10_beat 22 = .ok (.ifCond .eq 13, 3) := by decide +kernel
theorem dX10_beat_25 : decode cX10_beat 25 = .ok (.iload_n 3, 1) := by decide +kernel
theorem dX10_beat_26 : decode cX10_beat 26 = .ok (.i2l, 1) := by decide +kernel
theorem dX10_beat_27 : decode cX10_beat 27 = .ok (.lconst 0, 1) := by decide +kernel
theorem dX10_beat_28 : decode cX10_beat 28 = .ok (.lconst 1, 1) := by decide +kernel
theorem dX10_beat_29 : decode cX10_beat 29 = .ok (.invokestatic 84, 3) := by decide +kernel
theorem dX10_beat_32 : decode cX10_beat 32 = .ok (.ifCond .ne 5, 3) := by decide +kernel
theorem dX10_beat_35 : decode cX10_beat 35 = .ok (.iconst (-1), 1) := by decide +kernel
theorem dX10_beat_36 : decode cX10_beat 36 = .ok (.ireturn, 1) := by decide +kernel
theorem dX10_beat_37 : decode cX10_beat 37 = .ok (.iconst 0, 1) := by decide +kernel
theorem dX10_beat_38 : decode cX10_beat 38 = .ok (.istore 4, 2) := by decide +kernel
theorem dX10_beat_40 : decode cX10_beat 40 = .ok (.iconst (-1), 1) := by decide +kernel
theorem dX10_beat_41 : decode cX10_beat 41 = .ok (.istore 5, 2) := by decide +kernel
theorem dX10_beat_43 : decode cX10_beat 43 = .ok (.aload_n 0, 1) := by decide +kernel
theorem dX10_beat_44 : decode cX10_beat 44 = .ok (.invokevirtual 225, 3) := by decide +kernel
theorem dX10_beat_47 : decode cX10_beat 47 = .ok (.iconst 0, 1) := by decide +kernel
theorem dX10_beat_48 : decode cX10_beat 48 = .ok (.istore 6, 2) := by decide +kernel
theorem dX10_beat_50 : decode cX10_beat 50 = .ok (.iload 6, 2) := by decide +kernel
theorem dX10_beat_52 : decode cX10_beat 52 = .ok (.bipush 10, 2) := by decide +kernel
theorem dX10_beat_54 : decode cX10_beat 54 = .ok (.if_icmp .ge 88, 3) := by decide +kernel
theorem dX10_beat_57 : decode cX10_beat 57 = .ok (.aload_n 0, 1) := by decide +kernel
theorem dX10_beat_58 : decode cX10_beat 58 = .ok (.getfield 13, 3) := by decide +kernel
theorem dX10_beat_61 : decode cX10_beat 61 = .ok (.iload_n 1, 1) := by decide +kernel
theorem dX10_beat_62 : decode cX10_beat 62 = .ok (.iload 6, 2) := by decide +kernel
theorem dX10_beat_64 : decode cX10_beat 64 = .ok (.iastore, 1) := by decide +kernel
theorem dX10_beat_65 : decode cX10_beat 65 = .ok (.iconst 0, 1) := by decide +kernel
theorem dX10_beat_66 : decode cX10_beat 66 = .ok (.istore 7, 2) := by decide +kernel
theorem dX10_beat_68 : decode cX10_beat 68 = .ok (.iconst 0, 1) := by decide +kernel
theorem dX10_beat_69 : decode cX10_beat 69 = .ok (.istore 8, 2) := by decide +kernel
theorem dX10_beat_71 : decode cX10_beat 71 = .ok (.iload 8, 2) := by decide +kernel
theorem dX10_beat_73 : decode cX10_beat 73 = .ok (.iload_n 2, 1) := by decide +kernel
theorem dX10_beat_74 : decode cX10_beat 74 = .ok (.if_icmp .ge 26, 3) := by decide +kernel
theorem dX10_beat_77 : decode cX10_beat 77 = .ok (.iload 7, 2) := by decide +kernel
theorem dX10_beat_79 : decode cX10_beat 79 = .ok (.aload_n 0, 1) := by decide +kernel
theorem dX10_beat_80 : decode cX10_beat 80 = .ok (.invokevirtual 134, 3) := by decide +kernel
theorem dX10_beat_83 : decode cX10_beat 83 = .ok (.ifCond .eq 7, 3) := by decide +kernel
theorem dX10_beat_86 : decode cX10_beat 86 = .ok (.iconst 1, 1) := by decide +kernel
theorem dX10_beat_87 : decode cX10_beat 87 = .ok (.goto 4, 3) := by decide +kernel
theorem dX10_beat_90 : decode cX10_beat 90 = .ok (.iconst 0, 1) := by decide +kernel
theorem dX10_beat_91 : decode cX10_beat 91 = .ok (.iadd, 1) := by decide +kernel
theorem dX10_beat_92 : decode cX10_beat 92 = .ok (.istore 7, 2) := by decide +kernel
theorem dX10_beat_94 : decode cX10_beat 94 = .ok (.iinc 8 1, 3) := by decide +kernel
theorem dX10_beat_97 : decode cX10_beat 97 = .ok (.goto (-26), 3) := by decide +kernel
theorem dX10_beat_100 : decode cX10_beat 100 = .ok (.aload_n 0, 1) := by decide +kernel
theorem dX10_beat_101 : decode cX10_beat 101 = .ok (.invokevirtual 231, 3) := by decide +kernel
theorem dX10_beat_104 : decode cX10_beat 104 = .ok (.iload 7, 2) := by decide +kernel
theorem dX10_beat_106 : decode cX10_beat 106 = .ok (.iload 5, 2) := by decide +kernel
theorem dX10_beat_108 : decode cX10_beat 108 = .ok (.if_icmp .le 8, 3) := by decide +kernel
theorem dX10_beat_111 : decode cX10_beat 111 = .ok (.iload 6, 2) := by decide +kernel
theorem dX10_beat_113 : decode cX10_beat 113 = .ok (.goto 5, 3) := by decide +kernel
theorem dX10_beat_116 : decode cX10_beat 116 = .ok (.iload 4, 2) := by decide +kernel
theorem dX10_beat_118 : decode cX10_beat 118 = .ok (.istore 4, 2) := by decide +kernel
theorem dX10_beat_120 : decode cX10_beat 120 = .ok (.iload 7, 2) := by decide +kernel
theorem dX10_beat_122 : decode cX10_beat 122 = .ok (.iload 5, 2) := by decide +kernel
theorem dX10_beat_124 : decode cX10_beat 124 = .ok (.if_icmp .le 8, 3) := by decide +kernel
theorem dX10_beat_127 : decode cX10_beat 127 = .ok (.iload 7, 2) := by decide +kernel
theorem dX10_beat_129 : decode cX10_beat 129 = .ok (.goto 5, 3) := by decide +kernel
theorem dX10_beat_132 : decode cX10_beat 132 = .ok (.iload 5, 2) := by decide +kernel
theorem dX10_beat_134 : decode cX10_beat 134 = .ok (.istore 5, 2) := by decide +kernel
theorem dX10_beat_136 : decode cX10_beat 136 = .ok (.iinc 6 1, 3) := by decide +kernel
theorem dX10_beat_139 : decode cX10_beat 139 = .ok (.goto (-89), 3) := by decide +kernel
theorem dX10_beat_142 : decode cX10_beat 142 = .ok (.iload_n 3, 1) := by decide +kernel
theorem dX10_beat_143 : decode cX10_beat 143 = .ok (.ifCond .ne 8, 3) := by decide +kernel
theorem dX10_beat_146 : decode cX10_beat 146 = .ok (.iload 4, 2) := by decide +kernel
theorem dX10_beat_148 : decode cX10_beat 148 = .ok (.goto 5, 3) := by decide +kernel
theorem dX10_beat_151 : decode cX10_beat 151 = .ok (.iload 5, 2) := by decide +kernel
theorem dX10_beat_153 : decode cX10_beat 153 = .ok (.ireturn, 1) := by decide +kernel
theorem dX10_end_0 : decode cX10_end 0 = .ok (.aload_n 0, 1) := by decide +kernel
theorem dX10_end_1 : decode cX10_end 1 = .ok (.iconst 0, 1) := by decide +kernel
theorem dX10_end_2 : decode cX10_end 2 = .ok (.putfield 78, 3) := by decide +kernel
theorem dX10_end_5 : decode cX10_end 5 = .ok (.iload_n 1, 1) := by decide +kernel
theorem dX10_end_6 : decode cX10_end 6 = .ok (.i2l, 1) := by decide +kernel
theorem dX10_end_7 : decode cX10_end 7 = .ok (.lconst 0, 1) := by decide +kernel
theorem dX10_end_8 : decode cX10_end 8 = .ok (.lconst 1, 1) := by decide +kernel
theorem dX10_end_9 : decode cX10_end 9 = .ok (.invokestatic 84, 3) := by decide +kernel
theorem dX10_end_12 : decode cX10_end 12 = .ok (.ifCond .ne 5, 3) := by decide +kernel
theorem dX10_end_15 : decode cX10_end 15 = .ok (.iconst (-1), 1) := by decide +kernel
theorem dX10_end_16 : decode cX10_end 16 = .ok (.ireturn, 1) := by decide +kernel
theorem dX10_end_17 : decode cX10_end 17 = .ok (.iconst 0, 1) := by decide +kernel
theorem dX10_end_18 : decode cX10_end 18 = .ok (.istore_n 2, 1) := by decide +kernel
theorem dX10_end_19 : decode cX10_end 19 = .ok (.iconst 0, 1) := by decide +kernel
