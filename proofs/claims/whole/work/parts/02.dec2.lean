theorem dX9_bulb_74 : decode cX9_bulb 74 = .ok (.getfield 62, 3) := by decide +kernel
theorem dX9_bulb_77 : decode cX9_bulb 77 = .ok (.iload_n 1, 1) := by decide +kernel
theorem dX9_bulb_78 : decode cX9_bulb 78 = .ok (.iaload, 1) := by decide +kernel
theorem dX9_bulb_79 : decode cX9_bulb 79 = .ok (.ireturn, 1) := by decide +kernel
theorem dX9_bulb_80 : decode cX9_bulb 80 = .ok (.aload_n 0, 1) := by decide +kernel
theorem dX9_bulb_81 : decode cX9_bulb 81 = .ok (.getfield 10, 3) := by decide +kernel
theorem dX9_bulb_84 : decode cX9_bulb 84 = .ok (.getfield 65, 3) := by decide +kernel
theorem dX9_bulb_87 : decode cX9_bulb 87 = .ok (.iload_n 1, 1) := by decide +kernel
theorem dX9_bulb_88 : decode cX9_bulb 88 = .ok (.iaload, 1) := by decide +kernel
theorem dX9_bulb_89 : decode cX9_bulb 89 = .ok (.ireturn, 1) := by decide +kernel
theorem dX9_bulb_90 : decode cX9_bulb 90 = .ok (.aload_n 0, 1) := by decide +kernel
theorem dX9_bulb_91 : decode cX9_bulb 91 = .ok (.getfield 10, 3) := by decide +kernel
theorem dX9_bulb_94 : decode cX9_bulb 94 = .ok (.iload_n 1, 1) := by decide +kernel
theorem dX9_bulb_95 : decode cX9_bulb 95 = .ok (.invokevirtual 68, 3) := by decide +kernel
theorem dX9_bulb_98 : decode cX9_bulb 98 = .ok (.invokestatic 71, 3) := by decide +kernel
theorem dX9_bulb_101 : decode cX9_bulb 101 = .ok (.ireturn, 1) := by decide +kernel
theorem dX9_bulb_102 : decode cX9_bulb 102 = .ok (.aload_n 0, 1) := by decide +kernel
theorem dX9_bulb_103 : decode cX9_bulb 103 = .ok (.getfield 10, 3) := by decide +kernel
theorem dX9_bulb_106 : decode cX9_bulb 106 = .ok (.iload_n 1, 1) := by decide +kernel
theorem dX9_bulb_107 : decode cX9_bulb 107 = .ok (.invokevirtual 75, 3) := by decide +kernel
theorem dX9_bulb_110 : decode cX9_bulb 110 = .ok (.invokestatic 71, 3) := by decide +kernel
theorem dX9_bulb_113 : decode cX9_bulb 113 = .ok (.ireturn, 1) := by decide +kernel
theorem dX9_bulb_114 : decode cX9_bulb 114 = .ok (.aload_n 0, 1) := by decide +kernel
theorem dX9_bulb_115 : decode cX9_bulb 115 = .ok (.getfield 10, 3) := by decide +kernel
theorem dX9_bulb_118 : decode cX9_bulb 118 = .ok (.iload_n 1, 1) := by decide +kernel
theorem dX9_bulb_119 : decode cX9_bulb 119 = .ok (.invokevirtual 78, 3) := by decide +kernel
theorem dX9_bulb_122 : decode cX9_bulb 122 = .ok (.ireturn, 1) := by decide +kernel
theorem dX9_bulb_123 : decode cX9_bulb 123 = .ok (.aload_n 0, 1) := by decide +kernel
theorem dX9_bulb_124 : decode cX9_bulb 124 = .ok (.getfield 10, 3) := by decide +kernel
theorem dX9_bulb_127 : decode cX9_bulb 127 = .ok (.getfield 58, 3) := by decide +kernel
theorem dX9_bulb_130 : decode cX9_bulb 130 = .ok (.iload_n 1, 1) := by decide +kernel
theorem dX9_bulb_131 : decode cX9_bulb 131 = .ok (.iaload, 1) := by decide +kernel
theorem dX9_bulb_132 : decode cX9_bulb 132 = .ok (.aload_n 0, 1) := by decide +kernel
theorem dX9_bulb_133 : decode cX9_bulb 133 = .ok (.getfield 10, 3) := by decide +kernel
theorem dX9_bulb_136 : decode cX9_bulb 136 = .ok (.getfield 62, 3) := by decide +kernel
theorem dX9_bulb_139 : decode cX9_bulb 139 = .ok (.iload_n 1, 1) := by decide +kernel
theorem dX9_bulb_140 : decode cX9_bulb 140 = .ok (.iaload, 1) := by decide +kernel
theorem dX9_bulb_141 : decode cX9_bulb 141 = .ok (.invokestatic 81, 3) := by decide +kernel
theorem dX9_bulb_144 : decode cX9_bulb 144 = .ok (.ireturn, 1) := by decide +kernel
theorem dX9_bulb_145 : decode cX9_bulb 145 = .ok (.aload_n 0, 1) := by decide +kernel
theorem dX9_bulb_146 : decode cX9_bulb 146 = .ok (.getfield 10, 3) := by decide +kernel
theorem dX9_bulb_149 : decode cX9_bulb 149 = .ok (.iload_n 1, 1) := by decide +kernel
theorem dX9_bulb_150 : decode cX9_bulb 150 = .ok (.aload_n 0, 1) := by decide +kernel
theorem dX9_bulb_151 : decode cX9_bulb 151 = .ok (.getfield 10, 3) := by decide +kernel
theorem dX9_bulb_154 : decode cX9_bulb 154 = .ok (.getfield 87, 3) := by decide +kernel
theorem dX9_bulb_157 : decode cX9_bulb 157 = .ok (.iconst 1, 1) := by decide +kernel
theorem dX9_bulb_158 : decode cX9_bulb 158 = .ok (.iadd, 1) := by decide +kernel
theorem dX9_bulb_159 : decode cX9_bulb 159 = .ok (.invokevirtual 90, 3) := by decide +kernel
theorem dX9_bulb_162 : decode cX9_bulb 162 = .ok (.invokestatic 71, 3) := by decide +kernel
theorem dX9_bulb_165 : decode cX9_bulb 165 = .ok (.ireturn, 1) := by decide +kernel
theorem dX9_bulb_166 : decode cX9_bulb 166 = .ok (.iconst (-1), 1) := by decide +kernel
theorem dX9_bulb_167 : decode cX9_bulb 167 = .ok (.ireturn, 1) := by decide +kernel
theorem dX9_hangs_0 : decode cX9_hangs 0 = .ok (.aload_n 0, 1) := by decide +kernel
theorem dX9_hangs_1 : decode cX9_hangs 1 = .ok (.iload_n 1, 1) := by decide +kernel
theorem dX9_hangs_2 : decode cX9_hangs 2 = .ok (.invokevirtual 94, 3) := by decide +kernel
theorem dX9_hangs_5 : decode cX9_hangs 5 = .ok (.istore_n 2, 1) := by decide +kernel
theorem dX9_hangs_6 : decode cX9_hangs 6 = .ok (.iload_n 2, 1) := by decide +kernel
theorem dX9_hangs_7 : decode cX9_hangs 7 = .ok (.ifCond .eq 5, 3) := by decide +kernel
theorem dX9_hangs_10 : decode cX9_hangs 10 = .ok (.iload_n 2, 1) := by decide +kernel
theorem dX9_hangs_11 : decode cX9_hangs 11 = .ok (.ireturn, 1) := by decide +kernel
theorem dX9_hangs_12 : decode cX9_hangs 12 = .ok (.aload_n 0, 1) := by decide +kernel
theorem dX9_hangs_13 : decode cX9_hangs 13 = .ok (.getfield 10, 3) := by decide +kernel
theorem dX9_hangs_16 : decode cX9_hangs 16 = .ok (.invokevirtual 97, 3) := by decide +kernel
theorem dX9_hangs_19 : decode cX9_hangs 19 = .ok (.ifCond .eq 6, 3) := by decide +kernel
theorem dX9_hangs_22 : decode cX9_hangs 22 = .ok (.bipush (-2), 2) := by decide +kernel
theorem dX9_hangs_24 : decode cX9_hangs 24 = .ok (.ireturn, 1) := by decide +kernel
theorem dX9_hangs_25 : decode cX9_hangs 25 = .ok (.aload_n 0, 1) := by decide +kernel
theorem dX9_hangs_26 : decode cX9_hangs 26 = .ok (.getfield 10, 3) := by decide +kernel
theorem dX9_hangs_29 : decode cX9_hangs 29 = .ok (.aload_n 0, 1) := by decide +kernel
theorem dX9_hangs_30 : decode cX9_hangs 30 = .ok (.getfield 24, 3) := by decide +kernel
theorem dX9_hangs_33 : decode cX9_hangs 33 = .ok (.iload_n 1, 1) := by decide +kernel
theorem dX9_hangs_34 : decode cX9_hangs 34 = .ok (.aaload, 1) := by decide +kernel
theorem dX9_hangs_35 : decode cX9_hangs 35 = .ok (.getfield 101, 3) := by decide +kernel
theorem dX9_hangs_38 : decode cX9_hangs 38 = .ok (.aload_n 0, 1) := by decide +kernel
theorem dX9_hangs_39 : decode cX9_hangs 39 = .ok (.getfield 24, 3) := by decide +kernel
theorem dX9_hangs_42 : decode cX9_hangs 42 = .ok (.iload_n 1, 1) := by decide +kernel
theorem dX9_hangs_43 : decode cX9_hangs 43 = .ok (.aaload, 1) := by decide +kernel
theorem dX9_hangs_44 : decode cX9_hangs 44 = .ok (.getfield 103, 3) := by decide +kernel
theorem dX9_hangs_47 : decode cX9_hangs 47 = .ok (.invokevirtual 105, 3) := by decide +kernel
theorem dX9_hangs_50 : decode cX9_hangs 50 = .ok (.aload_n 0, 1) := by decide +kernel
theorem dX9_hangs_51 : decode cX9_hangs 51 = .ok (.getfield 10, 3) := by decide +kernel
theorem dX9_hangs_54 : decode cX9_hangs 54 = .ok (.getfield 109, 3) := by decide +kernel
theorem dX9_hangs_57 : decode cX9_hangs 57 = .ok (.iconst 1, 1) := by decide +kernel
theorem dX9_hangs_58 : decode cX9_hangs 58 = .ok (.isub, 1) := by decide +kernel
theorem dX9_hangs_59 : decode cX9_hangs 59 = .ok (.ireturn, 1) := by decide +kernel
theorem dX9_wears_0 : decode cX9_wears 0 = .ok (.aload_n 0, 1) := by decide +kernel
theorem dX9_wears_1 : decode cX9_wears 1 = .ok (.getfield 10, 3) := by decide +kernel
theorem dX9_wears_4 : decode cX9_wears 4 = .ok (.iload_n 1, 1) := by decide +kernel
theorem dX9_wears_5 : decode cX9_wears 5 = .ok (.invokevirtual 54, 3) := by decide +kernel
theorem dX9_wears_8 : decode cX9_wears 8 = .ok (.ifCond .eq 14, 3) := by decide +kernel
theorem dX9_wears_11 : decode cX9_wears 11 = .ok (.iload_n 2, 1) := by decide +kernel
theorem dX9_wears_12 : decode cX9_wears 12 = .ok (.iconst 0, 1) := by decide +kernel
theorem dX9_wears_13 : decode cX9_wears 13 = .ok (.sipush 999, 3) := by decide +kernel
theorem dX9_wears_16 : decode cX9_wears 16 = .ok (.invokestatic 112, 3) := by decide +kernel
theorem dX9_wears_19 : decode cX9_wears 19 = .ok (.ifCond .ne 5, 3) := by decide +kernel
theorem dX9_wears_22 : decode cX9_wears 22 = .ok (.iconst (-1), 1) := by decide +kernel
theorem dX9_wears_23 : decode cX9_wears 23 = .ok (.ireturn, 1) := by decide +kernel
theorem dX9_wears_24 : decode cX9_wears 24 = .ok (.aload_n 0, 1) := by decide +kernel
theorem dX9_wears_25 : decode cX9_wears 25 = .ok (.getfield 10, 3) := by decide +kernel
theorem dX9_wears_28 : decode cX9_wears 28 = .ok (.getfield 65, 3) := by decide +kernel
theorem dX9_wears_31 : decode cX9_wears 31 = .ok (.iload_n 1, 1) := by decide +kernel
theorem dX9_wears_32 : decode cX9_wears 32 = .ok (.iaload, 1) := by decide +kernel
theorem dX9_wears_33 : decode cX9_wears 33 = .ok (.istore_n 3, 1) := by decide +kernel
theorem dX9_wears_34 : decode cX9_wears 34 = .ok (.aload_n 0, 1) := by decide +kernel
theorem dX9_wears_35 : decode cX9_wears 35 = .ok (.getfield 10, 3) := by decide +kernel
theorem dX9_wears_38 : decode cX9_wears 38 = .ok (.getfield 65, 3) := by decide +kernel
theorem dX9_wears_41 : decode cX9_wears 41 = .ok (.iload_n 1, 1) := by decide +kernel
theorem dX9_wears_42 : decode cX9_wears 42 = .ok (.iload_n 2, 1) := by decide +kernel
theorem dX9_wears_43 : decode cX9_wears 43 = .ok (.iastore, 1) := by decide +kernel
theorem dX9_wears_44 : decode cX9_wears 44 = .ok (.iload_n 3, 1) := by decide +kernel
theorem dX9_wears_45 : decode cX9_wears 45 = .ok (.ireturn, 1) := by decide +kernel
theorem dX9_breaks_0 : decode cX9_breaks 0 = .ok (.aload_n 0, 1) := by decide +kernel
theorem dX9_breaks_1 : decode cX9_breaks 1 = .ok (.getfield 10, 3) := by decide +kernel
theorem dX9_breaks_4 : decode cX9_breaks 4 = .ok (.iload_n 1, 1) := by decide +kernel
theorem dX9_breaks_5 : decode cX9_breaks 5 = .ok (.invokevirtual 54, 3) := by decide +kernel
theorem dX9_breaks_8 : decode cX9_breaks 8 = .ok (.ifCond .ne 5, 3) := by decide +kernel
theorem dX9_breaks_11 : decode cX9_breaks 11 = .ok (.iconst (-1), 1) := by decide +kernel
theorem dX9_breaks_12 : decode cX9_breaks 12 = .ok (.ireturn, 1) := by decide +kernel
theorem dX9_breaks_13 : decode cX9_breaks 13 = .ok (.aload_n 0, 1) := by decide +kernel
theorem dX9_breaks_14 : decode cX9_breaks 14 = .ok (.getfield 10, 3) := by decide +kernel
theorem dX9_breaks_17 : decode cX9_breaks 17 = .ok (.iload_n 1, 1) := by decide +kernel
theorem dX9_breaks_18 : decode cX9_breaks 18 = .ok (.invokevirtual 116, 3) := by decide +kernel
theorem dX9_breaks_21 : decode cX9_breaks 21 = .ok (.aload_n 0, 1) := by decide +kernel
theorem dX9_breaks_22 : decode cX9_breaks 22 = .ok (.getfield 10, 3) := by decide +kernel
theorem dX9_breaks_25 : decode cX9_breaks 25 = .ok (.iload_n 1, 1) := by decide +kernel
theorem dX9_breaks_26 : decode cX9_breaks 26 = .ok (.invokevirtual 68, 3) := by decide +kernel
theorem dX9_breaks_29 : decode cX9_breaks 29 = .ok (.invokestatic 71, 3) := by decide +kernel
theorem dX9_breaks_32 : decode cX9_breaks 32 = .ok (.ireturn, 1) := by decide +kernel
theorem dX9_spares_0 : decode cX9_spares 0 = .ok (.iload_n 1, 1) := by decide +kernel
theorem dX9_spares_1 : decode cX9_spares 1 = .ok (.iconst 0, 1) := by decide +kernel
theorem dX9_spares_2 : decode cX9_spares 2 = .ok (.bipush 9, 2) := by decide +kernel
theorem dX9_spares_4 : decode cX9_spares 4 = .ok (.invokestatic 112, 3) := by decide +kernel
theorem dX9_spares_7 : decode cX9_spares 7 = .ok (.ifCond .ne 5, 3) := by decide +kernel
theorem dX9_spares_10 : decode cX9_spares 10 = .ok (.iconst (-1), 1) := by decide +kernel
theorem dX9_spares_11 : decode cX9_spares 11 = .ok (.ireturn, 1) := by decide +kernel
theorem dX9_spares_12 : decode cX9_spares 12 = .ok (.aload_n 0, 1) := by decide +kernel
theorem dX9_spares_13 : decode cX9_spares 13 = .ok (.getfield 10, 3) := by decide +kernel
theorem dX9_spares_16 : decode cX9_spares 16 = .ok (.getfield 120, 3) := by decide +kernel
theorem dX9_spares_19 : decode cX9_spares 19 = .ok (.istore_n 2, 1) := by decide +kernel
theorem dX9_spares_20 : decode cX9_spares 20 = .ok (.aload_n 0, 1) := by decide +kernel
theorem dX9_spares_21 : decode cX9_spares 21 = .ok (.getfield 10, 3) := by decide +kernel
theorem dX9_spares_24 : decode cX9_spares 24 = .ok (.iload_n 1, 1) := by decide +kernel
theorem dX9_spares_25 : decode cX9_spares 25 = .ok (.putfield 120, 3) := by decide +kernel
theorem dX9_spares_28 : decode cX9_spares 28 = .ok (.iload_n 2, 1) := by decide +kernel
theorem dX9_spares_29 : decode cX9_spares 29 = .ok (.ireturn, 1) := by decide +kernel
theorem dX9_twist_0 : decode cX9_twist 0 = .ok (.aload_n 0, 1) := by decide +kernel
theorem dX9_twist_1 : decode cX9_twist 1 = .ok (.getfield 10, 3) := by decide +kernel
theorem dX9_twist_4 : decode cX9_twist 4 = .ok (.iload_n 1, 1) := by decide +kernel
theorem dX9_twist_5 : decode cX9_twist 5 = .ok (.invokevirtual 54, 3) := by decide +kernel
theorem dX9_twist_8 : decode cX9_twist 8 = .ok (.ifCond .ne 5, 3) := by decide +kernel
theorem dX9_twist_11 : decode cX9_twist 11 = .ok (.iconst (-1), 1) := by decide +kernel
theorem dX9_twist_12 : decode cX9_twist 12 = .ok (.ireturn, 1) := by decide +kernel
theorem dX9_twist_13 : decode cX9_twist 13 = .ok (.aload_n 0, 1) := by decide +kernel
theorem dX9_twist_14 : decode cX9_twist 14 = .ok (.getfield 10, 3) := by decide +kernel
theorem dX9_twist_17 : decode cX9_twist 17 = .ok (.getfield 120, 3) := by decide +kernel
theorem dX9_twist_20 : decode cX9_twist 20 = .ok (.ifCond .gt 6, 3) := by decide +kernel
theorem dX9_twist_23 : decode cX9_twist 23 = .ok (.bipush (-3), 2) := by decide +kernel
theorem dX9_twist_25 : decode cX9_twist 25 = .ok (.ireturn, 1) := by decide +kernel
theorem dX9_twist_26 : decode cX9_twist 26 = .ok (.aload_n 0, 1) := by decide +kernel
theorem dX9_twist_27 : decode cX9_twist 27 = .ok (.getfield 10, 3) := by decide +kernel
theorem dX9_twist_30 : decode cX9_twist 30 = .ok (.iload_n 1, 1) := by decide +kernel
theorem dX9_twist_31 : decode cX9_twist 31 = .ok (.invokevirtual 123, 3) := by decide +kernel
theorem dX9_twist_34 : decode cX9_twist 34 = .ok (.ireturn, 1) := by decide +kernel
theorem dX9_use_0 : decode cX9_use 0 = .ok (.aload_n 0, 1) := by decide +kernel
theorem dX9_use_1 : decode cX9_use 1 = .ok (.getfield 10, 3) := by decide +kernel
theorem dX9_use_4 : decode cX9_use 4 = .ok (.iload_n 1, 1) := by decide +kernel
theorem dX9_use_5 : decode cX9_use 5 = .ok (.iload_n 2, 1) := by decide +kernel
theorem dX9_use_6 : decode cX9_use 6 = .ok (.iload_n 3, 1) := by decide +kernel
theorem dX9_use_7 : decode cX9_use 7 = .ok (.invokevirtual 126, 3) := by decide +kernel
theorem dX9_use_10 : decode cX9_use 10 = .ok (.ifCond .ne 5, 3) := by decide +kernel
theorem dX9_use_13 : decode cX9_use 13 = .ok (.iconst (-1), 1) := by decide +kernel
theorem dX9_use_14 : decode cX9_use 14 = .ok (.ireturn, 1) := by decide +kernel
theorem dX9_use_15 : decode cX9_use 15 = .ok (.aload_n 0, 1) := by decide +kernel
theorem dX9_use_16 : decode cX9_use 16 = .ok (.getfield 10, 3) := by decide +kernel
theorem dX9_use_19 : decode cX9_use 19 = .ok (.iload_n 1, 1) := by decide +kernel
theorem dX9_use_20 : decode cX9_use 20 = .ok (.iload_n 2, 1) := by decide +kernel
theorem dX9_use_21 : decode cX9_use 21 = .ok (.iload_n 3, 1) := by decide +kernel
theorem dX9_use_22 : decode cX9_use 22 = .ok (.invokevirtual 129, 3) := by decide +kernel
theorem dX9_use_25 : decode cX9_use 25 = .ok (.invokestatic 71, 3) := by decide +kernel
theorem dX9_use_28 : decode cX9_use 28 = .ok (.ireturn, 1) := by decide +kernel
theorem dX9_hours_0 : decode cX9_hours 0 = .ok (.iload_n 1, 1) := by decide +kernel
theorem dX9_hours_1 : decode cX9_hours 1 = .ok (.iconst 1, 1) := by decide +kernel
theorem dX9_hours_2 : decode cX9_hours 2 = .ok (.bipush 60, 2) := by decide +kernel
theorem dX9_hours_4 : decode cX9_hours 4 = .ok (.invokestatic 112, 3) := by decide +kernel
theorem dX9_hours_7 : decode cX9_hours 7 = .ok (.ifCond .ne 5, 3) := by decide +kernel
theorem dX9_hours_10 : decode cX9_hours 10 = .ok (.iconst (-1), 1) := by decide +kernel
theorem dX9_hours_11 : decode cX9_hours 11 = .ok (.ireturn, 1) := by decide +kernel
theorem dX9_hours_12 : decode cX9_hours 12 = .ok (.aload_n 0, 1) := by decide +kernel
theorem dX9_hours_13 : decode cX9_hours 13 = .ok (.getfield 10, 3) := by decide +kernel
theorem dX9_hours_16 : decode cX9_hours 16 = .ok (.iload_n 1, 1) := by decide +kernel
theorem dX9_hours_17 : decode cX9_hours 17 = .ok (.invokevirtual 132, 3) := by decide +kernel
theorem dX9_hours_20 : decode cX9_hours 20 = .ok (.ifCond .eq 13, 3) := by decide +kernel
theorem dX9_hours_23 : decode cX9_hours 23 = .ok (.aload_n 0, 1) := by decide +kernel
theorem dX9_hours_24 : decode cX9_hours 24 = .ok (.getfield 10, 3) := by decide +kernel
theorem dX9_hours_27 : decode cX9_hours 27 = .ok (.getfield 135, 3) := by decide +kernel
theorem dX9_hours_30 : decode cX9_hours 30 = .ok (.goto 5, 3) := by decide +kernel
theorem dX9_hours_33 : decode cX9_hours 33 = .ok (.bipush (-3), 2) := by decide +kernel
theorem dX9_hours_35 : decode cX9_hours 35 = .ok (.ireturn, 1) := by decide +kernel
theorem dX9_then_0 : decode cX9_then 0 = .ok (.iload_n 1, 1) := by decide +kernel
theorem dX9_then_1 : decode cX9_then 1 = .ok (.iconst 0, 1) := by decide +kernel
theorem dX9_then_2 : decode cX9_then 2 = .ok (.bipush 60, 2) := by decide +kernel
theorem dX9_then_4 : decode cX9_then 4 = .ok (.invokestatic 112, 3) := by decide +kernel
theorem dX9_then_7 : decode cX9_then 7 = .ok (.ifCond .eq 12, 3) := by decide +kernel
theorem dX9_then_10 : decode cX9_then 10 = .ok (.iload_n 2, 1) := by decide +kernel
theorem dX9_then_11 : decode cX9_then 11 = .ok (.iconst 0, 1) := by decide +kernel
theorem dX9_then_12 : decode cX9_then 12 = .ok (.iconst 2, 1) := by decide +kernel
theorem dX9_then_13 : decode cX9_then 13 = .ok (.invokestatic 112, 3) := by decide +kernel
theorem dX9_then_16 : decode cX9_then 16 = .ok (.ifCond .ne 5, 3) := by decide +kernel
theorem dX9_then_19 : decode cX9_then 19 = .ok (.iconst (-1), 1) := by decide +kernel
theorem dX9_then_20 : decode cX9_then 20 = .ok (.ireturn, 1) := by decide +kernel
theorem dX9_then_21 : decode cX9_then 21 = .ok (.aload_n 0, 1) := by decide +kernel
theorem dX9_then_22 : decode cX9_then 22 = .ok (.getfield 16, 3) := by decide +kernel
theorem dX9_then_25 : decode cX9_then 25 = .ok (.aload_n 0, 1) := by decide +kernel
theorem dX9_then_26 : decode cX9_then 26 = .ok (.getfield 10, 3) := by decide +kernel
theorem dX9_then_29 : decode cX9_then 29 = .ok (.invokevirtual 44, 3) := by decide +kernel
theorem dX9_then_32 : decode cX9_then 32 = .ok (.aload_n 0, 1) := by decide +kernel
theorem dX9_then_33 : decode cX9_then 33 = .ok (.getfield 16, 3) := by decide +kernel
theorem dX9_then_36 : decode cX9_then 36 = .ok (.iload_n 1, 1) := by decide +kernel
theorem dX9_then_37 : decode cX9_then 37 = .ok (.invokevirtual 138, 3) := by decide +kernel
theorem dX9_then_40 : decode cX9_then 40 = .ok (.iload_n 2, 1) := by decide +kernel
theorem dX9_then_41 : decode cX9_then 41 = .ok (.ifCond .ne 11, 3) := by decide +kernel
theorem dX9_then_44 : decode cX9_then 44 = .ok (.aload_n 0, 1) := by decide +kernel
theorem dX9_then_45 : decode cX9_then 45 = .ok (.getfield 16, 3) := by decide +kernel
theorem dX9_then_48 : decode cX9_then 48 = .ok (.getfield 141, 3) := by decide +kernel
theorem dX9_then_51 : decode cX9_then 51 = .ok (.ireturn, 1) := by decide +kernel
theorem dX9_then_52 : decode cX9_then 52 = .ok (.iload_n 2, 1) := by decide +kernel
theorem dX9_then_53 : decode cX9_then 53 = .ok (.iconst 1, 1) := by decide +kernel
theorem dX9_then_54 : decode cX9_then 54 = .ok (.if_icmp .ne 13, 3) := by decide +kernel
theorem dX9_then_57 : decode cX9_then 57 = .ok (.aload_n 0, 1) := by decide +kernel
theorem dX9_then_58 : decode cX9_then 58 = .ok (.getfield 16, 3) := by decide +kernel
theorem dX9_then_61 : decode cX9_then 61 = .ok (.getfield 135, 3) := by decide +kernel
theorem dX9_then_64 : decode cX9_then 64 = .ok (.goto 10, 3) := by decide +kernel
theorem dX9_then_67 : decode cX9_then 67 = .ok (.aload_n 0, 1) := by decide +kernel
theorem dX9_then_68 : decode cX9_then 68 = .ok (.getfield 16, 3) := by decide +kernel
theorem dX9_then_71 : decode cX9_then 71 = .ok (.invokevirtual 144, 3) := by decide +kernel
theorem dX9_then_74 : decode cX9_then 74 = .ok (.ireturn, 1) := by decide +kernel
theorem dX9_wornThen_0 : decode cX9_wornThen 0 = .ok (.aload_n 0, 1) := by decide +kernel
theorem dX9_wornThen_1 : decode cX9_wornThen 1 = .ok (.getfield 10, 3) := by decide +kernel
theorem dX9_wornThen_4 : decode cX9_wornThen 4 = .ok (.iload_n 1, 1) := by decide +kernel
theorem dX9_wornThen_5 : decode cX9_wornThen 5 = .ok (.invokevirtual 54, 3) := by decide +kernel
theorem dX9_wornThen_8 : decode cX9_wornThen 8 = .ok (.ifCond .eq 13, 3) := by decide +kernel
theorem dX9_wornThen_11 : decode cX9_wornThen 11 = .ok (.iload_n 2, 1) := by decide +kernel
theorem dX9_wornThen_12 : decode cX9_wornThen 12 = .ok (.iconst 0, 1) := by decide +kernel
theorem dX9_wornThen_13 : decode cX9_wornThen 13 = .ok (.bipush 60, 2) := by decide +kernel
theorem dX9_wornThen_15 : decode cX9_wornThen 15 = .ok (.invokestatic 112, 3) := by decide +kernel
theorem dX9_wornThen_18 : decode cX9_wornThen 18 = .ok (.ifCond .ne 5, 3) := by decide +kernel
theorem dX9_wornThen_21 : decode cX9_wornThen 21 = .ok (.iconst (-1), 1) := by decide +kernel
theorem dX9_wornThen_22 : decode cX9_wornThen 22 = .ok (.ireturn, 1) := by decide +kernel
theorem dX9_wornThen_23 : decode cX9_wornThen 23 = .ok (.aload_n 0, 1) := by decide +kernel
theorem dX9_wornThen_24 : decode cX9_wornThen 24 = .ok (.getfield 16, 3) := by decide +kernel
theorem dX9_wornThen_27 : decode cX9_wornThen 27 = .ok (.aload_n 0, 1) := by decide +kernel
theorem dX9_wornThen_28 : decode cX9_wornThen 28 = .ok (.getfield 10, 3) := by decide +kernel
theorem dX9_wornThen_31 : decode cX9_wornThen 31 = .ok (.invokevirtual 44, 3) := by decide +kernel
theorem dX9_wornThen_34 : decode cX9_wornThen 34 = .ok (.aload_n 0, 1) := by decide +kernel
theorem dX9_wornThen_35 : decode cX9_wornThen 35 = .ok (.getfield 16, 3) := by decide +kernel
theorem dX9_wornThen_38 : decode cX9_wornThen 38 = .ok (.iload_n 2, 1) := by decide +kernel
theorem dX9_wornThen_39 : decode cX9_wornThen 39 = .ok (.invokevirtual 138, 3) := by decide +kernel
theorem dX9_wornThen_42 : decode cX9_wornThen 42 = .ok (.aload_n 0, 1) := by decide +kernel
theorem dX9_wornThen_43 : decode cX9_wornThen 43 = .ok (.getfield 16, 3) := by decide +kernel
theorem dX9_wornThen_46 : decode cX9_wornThen 46 = .ok (.getfield 65, 3) := by decide +kernel
theorem dX9_wornThen_49 : decode cX9_wornThen 49 = .ok (.iload_n 1, 1) := by decide +kernel
theorem dX9_wornThen_50 : decode cX9_wornThen 50 = .ok (.iaload, 1) := by decide +kernel
theorem dX9_wornThen_51 : decode cX9_wornThen 51 = .ok (.ireturn, 1) := by decide +kernel
theorem dX9_goes_0 : decode cX9_goes 0 = .ok (.iload_n 1, 1) := by decide +kernel
theorem dX9_goes_1 : decode cX9_goes 1 = .ok (.iconst (-1), 1) := by decide +kernel
theorem dX9_goes_2 : decode cX9_goes 2 = .ok (.if_icmp .eq 16, 3) := by decide +kernel
theorem dX9_goes_5 : decode cX9_goes 5 = .ok (.aload_n 0, 1) := by decide +kernel
theorem dX9_goes_6 : decode cX9_goes 6 = .ok (.getfield 10, 3) := by decide +kernel
theorem dX9_goes_9 : decode cX9_goes 9 = .ok (.iload_n 1, 1) := by decide +kernel
theorem dX9_goes_10 : decode cX9_goes 10 = .ok (.invokevirtual 54, 3) := by decide +kernel
theorem dX9_goes_13 : decode cX9_goes 13 = .ok (.ifCond .ne 5, 3) := by decide +kernel
theorem dX9_goes_16 : decode cX9_goes 16 = .ok (.iconst (-1), 1) := by decide +kernel
theorem dX9_goes_17 : decode cX9_goes 17 = .ok (.ireturn, 1) := by decide +kernel
theorem dX9_goes_18 : decode cX9_goes 18 = .ok (.aload_n 0, 1) := by decide +kernel
theorem dX9_goes_19 : decode cX9_goes 19 = .ok (.getfield 16, 3) := by decide +kernel
theorem dX9_goes_22 : decode cX9_goes 22 = .ok (.aload_n 0, 1) := by decide +kernel
theorem dX9_goes_23 : decode cX9_goes 23 = .ok (.getfield 10, 3) := by decide +kernel
theorem dX9_goes_26 : decode cX9_goes 26 = .ok (.invokevirtual 44, 3) := by decide +kernel
theorem dX9_goes_29 : decode cX9_goes 29 = .ok (.iload_n 1, 1) := by decide +kernel
theorem dX9_goes_30 : decode cX9_goes 30 = .ok (.iconst (-1), 1) := by decide +kernel
theorem dX9_goes_31 : decode cX9_goes 31 = .ok (.if_icmp .ne 13, 3) := by decide +kernel
theorem dX9_goes_34 : decode cX9_goes 34 = .ok (.aload_n 0, 1) := by decide +kernel
theorem dX9_goes_35 : decode cX9_goes 35 = .ok (.getfield 16, 3) := by decide +kernel
theorem dX9_goes_38 : decode cX9_goes 38 = .ok (.invokestatic 148, 3) := by decide +kernel
theorem dX9_goes_41 : decode cX9_goes 41 = .ok (.goto 11, 3) := by decide +kernel
theorem dX9_goes_44 : decode cX9_goes 44 = .ok (.aload_n 0, 1) := by decide +kernel
theorem dX9_goes_45 : decode cX9_goes 45 = .ok (.getfield 16, 3) := by decide +kernel
theorem dX9_goes_48 : decode cX9_goes 48 = .ok (.iload_n 1, 1) := by decide +kernel
theorem dX9_goes_49 : decode cX9_goes 49 = .ok (.invokestatic 154, 3) := by decide +kernel
theorem dX9_goes_52 : decode cX9_goes 52 = .ok (.ireturn, 1) := by decide +kernel
theorem dX9_dark_0 : decode cX9_dark 0 = .ok (.aload_n 0, 1) := by decide +kernel
theorem dX9_dark_1 : decode cX9_dark 1 = .ok (.getfield 16, 3) := by decide +kernel
theorem dX9_dark_4 : decode cX9_dark 4 = .ok (.aload_n 0, 1) := by decide +kernel
theorem dX9_dark_5 : decode cX9_dark 5 = .ok (.getfield 10, 3) := by decide +kernel
theorem dX9_dark_8 : decode cX9_dark 8 = .ok (.invokevirtual 44, 3) := by decide +kernel
theorem dX9_dark_11 : decode cX9_dark 11 = .ok (.aload_n 0, 1) := by decide +kernel
theorem dX9_dark_12 : decode cX9_dark 12 = .ok (.getfield 16, 3) := by decide +kernel
theorem dX9_dark_15 : decode cX9_dark 15 = .ok (.invokestatic 158, 3) := by decide +kernel
theorem dX9_dark_18 : decode cX9_dark 18 = .ok (.ireturn, 1) := by decide +kernel
theorem dX9_lights_0 : decode cX9_lights 0 = .ok (.iload_n 1, 1) := by decide +kernel
theorem dX9_lights_1 : decode cX9_lights 1 = .ok (.tableswitch 98 0 4 #[35, 55, 63, 71, 90], 35) := by decide +kernel
theorem dX9_lights_36 : decode cX9_lights 36 = .ok (.aload_n 0, 1) := by decide +kernel
theorem dX9_lights_37 : decode cX9_lights 37 = .ok (.getfield 10, 3) := by decide +kernel
theorem dX9_lights_40 : decode cX9_lights 40 = .ok (.aload_n 0, 1) := by decide +kernel
theorem dX9_lights_41 : decode cX9_lights 41 = .ok (.getfield 10, 3) := by decide +kernel
theorem dX9_lights_44 : decode cX9_lights 44 = .ok (.getfield 87, 3) := by decide +kernel
theorem dX9_lights_47 : decode cX9_lights 47 = .ok (.iconst 1, 1) := by decide +kernel
theorem dX9_lights_48 : decode cX9_lights 48 = .ok (.iadd, 1) := by decide +kernel
theorem dX9_lights_49 : decode cX9_lights 49 = .ok (.invokevirtual 161, 3) := by decide +kernel
theorem dX9_lights_52 : decode cX9_lights 52 = .ok (.invokestatic 71, 3) := by decide +kernel
theorem dX9_lights_55 : decode cX9_lights 55 = .ok (.ireturn, 1) := by decide +kernel
theorem dX9_lights_56 : decode cX9_lights 56 = .ok (.aload_n 0, 1) := by decide +kernel
theorem dX9_lights_57 : decode cX9_lights 57 = .ok (.getfield 10, 3) := by decide +kernel
theorem dX9_lights_60 : decode cX9_lights 60 = .ok (.invokevirtual 164, 3) := by decide +kernel
theorem dX9_lights_63 : decode cX9_lights 63 = .ok (.ireturn, 1) := by decide +kernel
theorem dX9_lights_64 : decode cX9_lights 64 = .ok (.aload_n 0, 1) := by decide +kernel
theorem dX9_lights_65 : decode cX9_lights 65 = .ok (.getfield 10, 3) := by decide +kernel
theorem dX9_lights_68 : decode cX9_lights 68 = .ok (.invokevirtual 167, 3) := by decide +kernel
theorem dX9_lights_71 : decode cX9_lights 71 = .ok (.ireturn, 1) := by decide +kernel
theorem dX9_lights_72 : decode cX9_lights 72 = .ok (.aload_n 0, 1) := by decide +kernel
theorem dX9_lights_73 : decode cX9_lights 73 = .ok (.getfield 16, 3) := by decide +kernel
theorem dX9_lights_76 : decode cX9_lights 76 = .ok (.aload_n 0, 1) := by decide +kernel
theorem dX9_lights_77 : decode cX9_lights 77 = .ok (.getfield 10, 3) := by decide +kernel
theorem dX9_lights_80 : decode cX9_lights 80 = .ok (.invokevirtual 44, 3) := by decide +kernel
theorem dX9_lights_83 : decode cX9_lights 83 = .ok (.aload_n 0, 1) := by decide +kernel
theorem dX9_lights_84 : decode cX9_lights 84 = .ok (.getfield 16, 3) := by decide +kernel
theorem dX9_lights_87 : decode cX9_lights 87 = .ok (.invokestatic 170, 3) := by decide +kernel
theorem dX9_lights_90 : decode cX9_lights 90 = .ok (.ireturn, 1) := by decide +kernel
theorem dX9_lights_91 : decode cX9_lights 91 = .ok (.aload_n 0, 1) := by decide +kernel
theorem dX9_lights_92 : decode cX9_lights 92 = .ok (.getfield 10, 3) := by decide +kernel
theorem dX9_lights_95 : decode cX9_lights 95 = .ok (.invokevirtual 173, 3) := by decide +kernel
theorem dX9_lights_98 : decode cX9_lights 98 = .ok (.ireturn, 1) := by decide +kernel
theorem dX9_lights_99 : decode cX9_lights 99 = .ok (.iconst (-1), 1) := by decide +kernel
theorem dX9_lights_100 : decode cX9_lights 100 = .ok (.ireturn, 1) := by decide +kernel
theorem dX9_tool_0 : decode cX9_tool 0 = .ok (.aload_n 0, 1) := by decide +kernel
theorem dX9_tool_1 : decode cX9_tool 1 = .ok (.getfield 10, 3) := by decide +kernel
theorem dX9_tool_4 : decode cX9_tool 4 = .ok (.iload_n 1, 1) := by decide +kernel
theorem dX9_tool_5 : decode cX9_tool 5 = .ok (.iload_n 2, 1) := by decide +kernel
theorem dX9_tool_6 : decode cX9_tool 6 = .ok (.iload_n 3, 1) := by decide +kernel
theorem dX9_tool_7 : decode cX9_tool 7 = .ok (.invokevirtual 126, 3) := by decide +kernel
theorem dX9_tool_10 : decode cX9_tool 10 = .ok (.ifCond .eq 13, 3) := by decide +kernel
theorem dX9_tool_13 : decode cX9_tool 13 = .ok (.iload 4, 2) := by decide +kernel
theorem dX9_tool_15 : decode cX9_tool 15 = .ok (.iconst 0, 1) := by decide +kernel
theorem dX9_tool_16 : decode cX9_tool 16 = .ok (.iconst 2, 1) := by decide +kernel
theorem dX9_tool_17 : decode cX9_tool 17 = .ok (.invokestatic 112, 3) := by decide +kernel
theorem dX9_tool_20 : decode cX9_tool 20 = .ok (.ifCond .ne 5, 3) := by decide +kernel
theorem dX9_tool_23 : decode cX9_tool 23 = .ok (.iconst (-1), 1) := by decide +kernel
theorem dX9_tool_24 : decode cX9_tool 24 = .ok (.ireturn, 1) := by decide +kernel
theorem dX9_tool_25 : decode cX9_tool 25 = .ok (.aload_n 0, 1) := by decide +kernel
theorem dX9_tool_26 : decode cX9_tool 26 = .ok (.getfield 16, 3) := by decide +kernel
theorem dX9_tool_29 : decode cX9_tool 29 = .ok (.aload_n 0, 1) := by decide +kernel
theorem dX9_tool_30 : decode cX9_tool 30 = .ok (.getfield 10, 3) := by decide +kernel
theorem dX9_tool_33 : decode cX9_tool 33 = .ok (.invokevirtual 44, 3) := by decide +kernel
theorem dX9_tool_36 : decode cX9_tool 36 = .ok (.aload_n 0, 1) := by decide +kernel
theorem dX9_tool_37 : decode cX9_tool 37 = .ok (.getfield 16, 3) := by decide +kernel
theorem dX9_tool_40 : decode cX9_tool 40 = .ok (.iload_n 1, 1) := by decide +kernel
theorem dX9_tool_41 : decode cX9_tool 41 = .ok (.iload_n 2, 1) := by decide +kernel
theorem dX9_tool_42 : decode cX9_tool 42 = .ok (.iload_n 3, 1) := by decide +kernel
theorem dX9_tool_43 : decode cX9_tool 43 = .ok (.invokevirtual 129, 3) := by decide +kernel
theorem dX9_tool_46 : decode cX9_tool 46 = .ok (.istore 5, 2) := by decide +kernel
theorem dX9_tool_48 : decode cX9_tool 48 = .ok (.iload 4, 2) := by decide +kernel
theorem dX9_tool_50 : decode cX9_tool 50 = .ok (.ifCond .ne 9, 3) := by decide +kernel
theorem dX9_tool_53 : decode cX9_tool 53 = .ok (.iload 5, 2) := by decide +kernel
theorem dX9_tool_55 : decode cX9_tool 55 = .ok (.invokestatic 71, 3) := by decide +kernel
theorem dX9_tool_58 : decode cX9_tool 58 = .ok (.ireturn, 1) := by decide +kernel
theorem dX9_tool_59 : decode cX9_tool 59 = .ok (.iload 4, 2) := by decide +kernel
theorem dX9_tool_61 : decode cX9_tool 61 = .ok (.iconst 1, 1) := by decide +kernel
theorem dX9_tool_62 : decode cX9_tool 62 = .ok (.if_icmp .ne 16, 3) := by decide +kernel
theorem dX9_tool_65 : decode cX9_tool 65 = .ok (.aload_n 0, 1) := by decide +kernel
theorem dX9_tool_66 : decode cX9_tool 66 = .ok (.getfield 10, 3) := by decide +kernel
theorem dX9_tool_69 : decode cX9_tool 69 = .ok (.iload_n 1, 1) := by decide +kernel
theorem dX9_tool_70 : decode cX9_tool 70 = .ok (.iload_n 2, 1) := by decide +kernel
theorem dX9_tool_71 : decode cX9_tool 71 = .ok (.iload_n 3, 1) := by decide +kernel
theorem dX9_tool_72 : decode cX9_tool 72 = .ok (.invokevirtual 176, 3) := by decide +kernel
theorem dX9_tool_75 : decode cX9_tool 75 = .ok (.goto 10, 3) := by decide +kernel
theorem dX9_tool_78 : decode cX9_tool 78 = .ok (.aload_n 0, 1) := by decide +kernel
theorem dX9_tool_79 : decode cX9_tool 79 = .ok (.getfield 16, 3) := by decide +kernel
theorem dX9_tool_82 : decode cX9_tool 82 = .ok (.getfield 180, 3) := by decide +kernel
theorem dX9_tool_85 : decode cX9_tool 85 = .ok (.ireturn, 1) := by decide +kernel
theorem dX9_halves_0 : decode cX9_halves 0 = .ok (.aload_n 0, 1) := by decide +kernel
theorem dX9_halves_1 : decode cX9_halves 1 = .ok (.getfield 10, 3) := by decide +kernel
theorem dX9_halves_4 : decode cX9_halves 4 = .ok (.iload_n 1, 1) := by decide +kernel
theorem dX9_halves_5 : decode cX9_halves 5 = .ok (.iload_n 2, 1) := by decide +kernel
theorem dX9_halves_6 : decode cX9_halves 6 = .ok (.invokevirtual 183, 3) := by decide +kernel
theorem dX9_halves_9 : decode cX9_halves 9 = .ok (.ifCond .eq 12, 3) := by decide +kernel
theorem dX9_halves_12 : decode cX9_halves 12 = .ok (.iload_n 3, 1) := by decide +kernel
theorem dX9_halves_13 : decode cX9_halves 13 = .ok (.iconst 0, 1) := by decide +kernel
theorem dX9_halves_14 : decode cX9_halves 14 = .ok (.iconst 1, 1) := by decide +kernel
theorem dX9_halves_15 : decode cX9_halves 15 = .ok (.invokestatic 112, 3) := by decide +kernel
theorem dX9_halves_18 : decode cX9_halves 18 = .ok (.ifCond .ne 5, 3) := by decide +kernel
theorem dX9_halves_21 : decode cX9_halves 21 = .ok (.iconst (-1), 1) := by decide +kernel
theorem dX9_halves_22 : decode cX9_halves 22 = .ok (.ireturn, 1) := by decide +kernel
theorem dX9_halves_23 : decode cX9_halves 23 = .ok (.iload_n 3, 1) := by decide +kernel
theorem dX9_halves_24 : decode cX9_halves 24 = .ok (.ifCond .ne 15, 3) := by decide +kernel
theorem dX9_halves_27 : decode cX9_halves 27 = .ok (.aload_n 0, 1) := by decide +kernel
theorem dX9_halves_28 : decode cX9_halves 28 = .ok (.getfield 31, 3) := by decide +kernel
theorem dX9_halves_31 : decode cX9_halves 31 = .ok (.iload_n 1, 1) := by decide +kernel
theorem dX9_halves_32 : decode cX9_halves 32 = .ok (.iload_n 2, 1) := by decide +kernel
theorem dX9_halves_33 : decode cX9_halves 33 = .ok (.invokevirtual 186, 3) := by decide +kernel
theorem dX9_halves_36 : decode cX9_halves 36 = .ok (.goto 12, 3) := by decide +kernel
theorem dX9_halves_39 : decode cX9_halves 39 = .ok (.aload_n 0, 1) := by decide +kernel
theorem dX9_halves_40 : decode cX9_halves 40 = .ok (.getfield 31, 3) := by decide +kernel
theorem dX9_halves_43 : decode cX9_halves 43 = .ok (.iload_n 1, 1) := by decide +kernel
theorem dX9_halves_44 : decode cX9_halves 44 = .ok (.iload_n 2, 1) := by decide +kernel
theorem dX9_halves_45 : decode cX9_halves 45 = .ok (.invokevirtual 189, 3) := by decide +kernel
theorem dX9_halves_48 : decode cX9_halves 48 = .ok (.ireturn, 1) := by decide +kernel
theorem dX9_mean_0 : decode cX9_mean 0 = .ok (.aload_n 0, 1) := by decide +kernel
theorem dX9_mean_1 : decode cX9_mean 1 = .ok (.getfield 10, 3) := by decide +kernel
theorem dX9_mean_4 : decode cX9_mean 4 = .ok (.iload_n 1, 1) := by decide +kernel
theorem dX9_mean_5 : decode cX9_mean 5 = .ok (.iload_n 2, 1) := by decide +kernel
theorem dX9_mean_6 : decode cX9_mean 6 = .ok (.invokevirtual 183, 3) := by decide +kernel
theorem dX9_mean_9 : decode cX9_mean 9 = .ok (.ifCond .eq 10, 3) := by decide +kernel
theorem dX9_mean_12 : decode cX9_mean 12 = .ok (.iload_n 3, 1) := by decide +kernel
theorem dX9_mean_13 : decode cX9_mean 13 = .ok (.invokestatic 192, 3) := by decide +kernel
theorem dX9_mean_16 : decode cX9_mean 16 = .ok (.ifCond .ne 8, 3) := by decide +kernel
theorem dX9_mean_19 : decode cX9_mean 19 = .ok (.iconst (-1), 1) := by decide +kernel
theorem dX9_mean_20 : decode cX9_mean 20 = .ok (.invokestatic 195, 3) := by decide +kernel
theorem dX9_mean_23 : decode cX9_mean 23 = .ok (.lreturn, 1) := by decide +kernel
theorem dX9_mean_24 : decode cX9_mean 24 = .ok (.aload_n 0, 1) := by decide +kernel
theorem dX9_mean_25 : decode cX9_mean 25 = .ok (.getfield 31, 3) := by decide +kernel
theorem dX9_mean_28 : decode cX9_mean 28 = .ok (.aload_n 0, 1) := by decide +kernel
theorem dX9_mean_29 : decode cX9_mean 29 = .ok (.getfield 10, 3) := by decide +kernel
theorem dX9_mean_32 : decode cX9_mean 32 = .ok (.iload_n 1, 1) := by decide +kernel
theorem dX9_mean_33 : decode cX9_mean 33 = .ok (.iload_n 2, 1) := by decide +kernel
theorem dX9_mean_34 : decode cX9_mean 34 = .ok (.invokevirtual 199, 3) := by decide +kernel
theorem dX9_mean_37 : decode cX9_mean 37 = .ok (.i2l, 1) := by decide +kernel
theorem dX9_mean_38 : decode cX9_mean 38 = .ok (.aload_n 0, 1) := by decide +kernel
theorem dX9_mean_39 : decode cX9_mean 39 = .ok (.getfield 10, 3) := by decide +kernel
theorem dX9_mean_42 : decode cX9_mean 42 = .ok (.iload_n 1, 1) := by decide +kernel
theorem dX9_mean_43 : decode cX9_mean 43 = .ok (.iload_n 2, 1) := by decide +kernel
theorem dX9_mean_44 : decode cX9_mean 44 = .ok (.invokevirtual 203, 3) := by decide +kernel
theorem dX9_mean_47 : decode cX9_mean 47 = .ok (.i2l, 1) := by decide +kernel
theorem dX9_mean_48 : decode cX9_mean 48 = .ok (.iload_n 3, 1) := by decide +kernel
theorem dX9_mean_49 : decode cX9_mean 49 = .ok (.invokestatic 206, 3) := by decide +kernel
theorem dX9_mean_52 : decode cX9_mean 52 = .ok (.lreturn, 1) := by decide +kernel
theorem dX9_order_0 : decode cX9_order 0 = .ok (.aload_n 0, 1) := by decide +kernel
theorem dX9_order_1 : decode cX9_order 1 = .ok (.getfield 10, 3) := by decide +kernel
theorem dX9_order_4 : decode cX9_order 4 = .ok (.iload_n 1, 1) := by decide +kernel
theorem dX9_order_5 : decode cX9_order 5 = .ok (.invokevirtual 212, 3) := by decide +kernel
theorem dX9_order_8 : decode cX9_order 8 = .ok (.ifCond .eq 20, 3) := by decide +kernel
theorem dX9_order_11 : decode cX9_order 11 = .ok (.iload_n 1, 1) := by decide +kernel
theorem dX9_order_12 : decode cX9_order 12 = .ok (.invokestatic 215, 3) := by decide +kernel
theorem dX9_order_15 : decode cX9_order 15 = .ok (.iconst 5, 1) := by decide +kernel
theorem dX9_order_16 : decode cX9_order 16 = .ok (.if_icmp .gt 12, 3) := by decide +kernel
theorem dX9_order_19 : decode cX9_order 19 = .ok (.iload_n 2, 1) := by decide +kernel
theorem dX9_order_20 : decode cX9_order 20 = .ok (.iconst 0, 1) := by decide +kernel
theorem dX9_order_21 : decode cX9_order 21 = .ok (.iconst 1, 1) := by decide +kernel
theorem dX9_order_22 : decode cX9_order 22 = .ok (.invokestatic 112, 3) := by decide +kernel
theorem dX9_order_25 : decode cX9_order 25 = .ok (.ifCond .ne 5, 3) := by decide +kernel
theorem dX9_order_28 : decode cX9_order 28 = .ok (.iconst (-1), 1) := by decide +kernel
theorem dX9_order_29 : decode cX9_order 29 = .ok (.ireturn, 1) := by decide +kernel
theorem dX9_order_30 : decode cX9_order 30 = .ok (.iload_n 2, 1) := by decide +kernel
theorem dX9_order_31 : decode cX9_order 31 = .ok (.ifCond .ne 14, 3) := by decide +kernel
theorem dX9_order_34 : decode cX9_order 34 = .ok (.aload_n 0, 1) := by decide +kernel
theorem dX9_order_35 : decode cX9_order 35 = .ok (.getfield 10, 3) := by decide +kernel
theorem dX9_order_38 : decode cX9_order 38 = .ok (.iload_n 1, 1) := by decide +kernel
theorem dX9_order_39 : decode cX9_order 39 = .ok (.invokestatic 220, 3) := by decide +kernel
theorem dX9_order_42 : decode cX9_order 42 = .ok (.goto 11, 3) := by decide +kernel
theorem dX9_order_45 : decode cX9_order 45 = .ok (.aload_n 0, 1) := by decide +kernel
theorem dX9_order_46 : decode cX9_order 46 = .ok (.getfield 10, 3) := by decide +kernel
theorem dX9_order_49 : decode cX9_order 49 = .ok (.iload_n 1, 1) := by decide +kernel
theorem dX9_order_50 : decode cX9_order 50 = .ok (.invokestatic 225, 3) := by decide +kernel
theorem dX9_order_53 : decode cX9_order 53 = .ok (.ireturn, 1) := by decide +kernel
theorem dX9_suspects_0 : decode cX9_suspects 0 = .ok (.iload_n 1, 1) := by decide +kernel
theorem dX9_suspects_1 : decode cX9_suspects 1 = .ok (.invokestatic 228, 3) := by decide +kernel
theorem dX9_suspects_4 : decode cX9_suspects 4 = .ok (.ifCond .eq 12, 3) := by decide +kernel
theorem dX9_suspects_7 : decode cX9_suspects 7 = .ok (.iload_n 2, 1) := by decide +kernel
theorem dX9_suspects_8 : decode cX9_suspects 8 = .ok (.iconst 0, 1) := by decide +kernel
theorem dX9_suspects_9 : decode cX9_suspects 9 = .ok (.iconst 1, 1) := by decide +kernel
theorem dX9_suspects_10 : decode cX9_suspects 10 = .ok (.invokestatic 112, 3) := by decide +kernel
theorem dX9_suspects_13 : decode cX9_suspects 13 = .ok (.ifCond .ne 5, 3) := by decide +kernel
theorem dX9_suspects_16 : decode cX9_suspects 16 = .ok (.iconst (-1), 1) := by decide +kernel
theorem dX9_suspects_17 : decode cX9_suspects 17 = .ok (.ireturn, 1) := by decide +kernel
theorem dX9_suspects_18 : decode cX9_suspects 18 = .ok (.aload_n 0, 1) := by decide +kernel
theorem dX9_suspects_19 : decode cX9_suspects 19 = .ok (.iload_n 1, 1) := by decide +kernel
theorem dX9_suspects_20 : decode cX9_suspects 20 = .ok (.invokevirtual 36, 3) := by decide +kernel
theorem dX9_suspects_23 : decode cX9_suspects 23 = .ok (.istore_n 3, 1) := by decide +kernel
theorem dX9_suspects_24 : decode cX9_suspects 24 = .ok (.iload_n 3, 1) := by decide +kernel
theorem dX9_suspects_25 : decode cX9_suspects 25 = .ok (.ifCond .eq 5, 3) := by decide +kernel
theorem dX9_suspects_28 : decode cX9_suspects 28 = .ok (.iload_n 3, 1) := by decide +kernel
theorem dX9_suspects_29 : decode cX9_suspects 29 = .ok (.ireturn, 1) := by decide +kernel
theorem dX9_suspects_30 : decode cX9_suspects 30 = .ok (.aload_n 0, 1) := by decide +kernel
theorem dX9_suspects_31 : decode cX9_suspects 31 = .ok (.getfield 24, 3) := by decide +kernel
theorem dX9_suspects_34 : decode cX9_suspects 34 = .ok (.iload_n 1, 1) := by decide +kernel
theorem dX9_suspects_35 : decode cX9_suspects 35 = .ok (.aaload, 1) := by decide +kernel
theorem dX9_suspects_36 : decode cX9_suspects 36 = .ok (.aload_n 0, 1) := by decide +kernel
theorem dX9_suspects_37 : decode cX9_suspects 37 = .ok (.getfield 10, 3) := by decide +kernel
theorem dX9_suspects_40 : decode cX9_suspects 40 = .ok (.invokestatic 231, 3) := by decide +kernel
theorem dX9_suspects_43 : decode cX9_suspects 43 = .ok (.ifCond .ne 6, 3) := by decide +kernel
theorem dX9_suspects_46 : decode cX9_suspects 46 = .ok (.bipush (-13), 2) := by decide +kernel
theorem dX9_suspects_48 : decode cX9_suspects 48 = .ok (.ireturn, 1) := by decide +kernel
theorem dX9_suspects_49 : decode cX9_suspects 49 = .ok (.iload_n 2, 1) := by decide +kernel
theorem dX9_suspects_50 : decode cX9_suspects 50 = .ok (.ifCond .ne 22, 3) := by decide +kernel
theorem dX9_suspects_53 : decode cX9_suspects 53 = .ok (.aload_n 0, 1) := by decide +kernel
theorem dX9_suspects_54 : decode cX9_suspects 54 = .ok (.getfield 24, 3) := by decide +kernel
theorem dX9_suspects_57 : decode cX9_suspects 57 = .ok (.iload_n 1, 1) := by decide +kernel
theorem dX9_suspects_58 : decode cX9_suspects 58 = .ok (.aaload, 1) := by decide +kernel
theorem dX9_suspects_59 : decode cX9_suspects 59 = .ok (.aload_n 0, 1) := by decide +kernel
theorem dX9_suspects_60 : decode cX9_suspects 60 = .ok (.getfield 10, 3) := by decide +kernel
theorem dX9_suspects_63 : decode cX9_suspects 63 = .ok (.getfield 109, 3) := by decide +kernel
theorem dX9_suspects_66 : decode cX9_suspects 66 = .ok (.invokestatic 237, 3) := by decide +kernel
theorem dX9_suspects_69 : decode cX9_suspects 69 = .ok (.goto 19, 3) := by decide +kernel
theorem dX9_suspects_72 : decode cX9_suspects 72 = .ok (.aload_n 0, 1) := by decide +kernel
theorem dX9_suspects_73 : decode cX9_suspects 73 = .ok (.getfield 24, 3) := by decide +kernel
theorem dX9_suspects_76 : decode cX9_suspects 76 = .ok (.iload_n 1, 1) := by decide +kernel
theorem dX9_suspects_77 : decode cX9_suspects 77 = .ok (.aaload, 1) := by decide +kernel
theorem dX9_suspects_78 : decode cX9_suspects 78 = .ok (.aload_n 0, 1) := by decide +kernel
theorem dX9_suspects_79 : decode cX9_suspects 79 = .ok (.getfield 10, 3) := by decide +kernel
theorem dX9_suspects_82 : decode cX9_suspects 82 = .ok (.getfield 109, 3) := by decide +kernel
theorem dX9_suspects_85 : decode cX9_suspects 85 = .ok (.invokestatic 241, 3) := by decide +kernel
theorem dX9_suspects_88 : decode cX9_suspects 88 = .ok (.ireturn, 1) := by decide +kernel
theorem dX9_buy_0 : decode cX9_buy 0 = .ok (.iload_n 1, 1) := by decide +kernel
theorem dX9_buy_1 : decode cX9_buy 1 = .ok (.iconst 0, 1) := by decide +kernel
theorem dX9_buy_2 : decode cX9_buy 2 = .ok (.bipush 60, 2) := by decide +kernel
theorem dX9_buy_4 : decode cX9_buy 4 = .ok (.invokestatic 112, 3) := by decide +kernel
theorem dX9_buy_7 : decode cX9_buy 7 = .ok (.ifCond .ne 5, 3) := by decide +kernel
theorem dX9_buy_10 : decode cX9_buy 10 = .ok (.iconst (-1), 1) := by decide +kernel
theorem dX9_buy_11 : decode cX9_buy 11 = .ok (.ireturn, 1) := by decide +kernel
theorem dX9_buy_12 : decode cX9_buy 12 = .ok (.iconst 0, 1) := by decide +kernel
theorem dX9_buy_13 : decode cX9_buy 13 = .ok (.istore_n 2, 1) := by decide +kernel
theorem dX9_buy_14 : decode cX9_buy 14 = .ok (.iload_n 2, 1) := by decide +kernel
theorem dX9_buy_15 : decode cX9_buy 15 = .ok (.bipush 9, 2) := by decide +kernel
theorem dX9_buy_17 : decode cX9_buy 17 = .ok (.if_icmp .gt 41, 3) := by decide +kernel
theorem dX9_buy_20 : decode cX9_buy 20 = .ok (.aload_n 0, 1) := by decide +kernel
theorem dX9_buy_21 : decode cX9_buy 21 = .ok (.getfield 16, 3) := by decide +kernel
theorem dX9_buy_24 : decode cX9_buy 24 = .ok (.aload_n 0, 1) := by decide +kernel
theorem dX9_buy_25 : decode cX9_buy 25 = .ok (.getfield 10, 3) := by decide +kernel
theorem dX9_buy_28 : decode cX9_buy 28 = .ok (.invokevirtual 44, 3) := by decide +kernel
theorem dX9_buy_31 : decode cX9_buy 31 = .ok (.aload_n 0, 1) := by decide +kernel
theorem dX9_buy_32 : decode cX9_buy 32 = .ok (.getfield 16, 3) := by decide +kernel
theorem dX9_buy_35 : decode cX9_buy 35 = .ok (.iload_n 2, 1) := by decide +kernel
theorem dX9_buy_36 : decode cX9_buy 36 = .ok (.putfield 120, 3) := by decide +kernel
theorem dX9_buy_39 : decode cX9_buy 39 = .ok (.aload_n 0, 1) := by decide +kernel
theorem dX9_buy_40 : decode cX9_buy 40 = .ok (.getfield 16, 3) := by decide +kernel
theorem dX9_buy_43 : decode cX9_buy 43 = .ok (.iload_n 1, 1) := by decide +kernel
theorem dX9_buy_44 : decode cX9_buy 44 = .ok (.invokestatic 244, 3) := by decide +kernel
theorem dX9_buy_47 : decode cX9_buy 47 = .ok (.ifCond .eq 5, 3) := by decide +kernel
theorem dX9_buy_50 : decode cX9_buy 50 = .ok (.iload_n 2, 1) := by decide +kernel
theorem dX9_buy_51 : decode cX9_buy 51 = .ok (.ireturn, 1) := by decide +kernel
theorem dX9_buy_52 : decode cX9_buy 52 = .ok (.iinc 2 1, 3) := by decide +kernel
theorem dX9_buy_55 : decode cX9_buy 55 = .ok (.goto (-41), 3) := by decide +kernel
theorem dX9_buy_58 : decode cX9_buy 58 = .ok (.bipush (-4), 2) := by decide +kernel
theorem dX9_buy_60 : decode cX9_buy 60 = .ok (.ireturn, 1) := by decide +kernel
theorem dX9_light_0 : decode cX9_light 0 = .ok (.iload_n 1, 1) := by decide +kernel
theorem dX9_light_1 : decode cX9_light 1 = .ok (.ifCond .eq 18, 3) := by decide +kernel
theorem dX9_light_4 : decode cX9_light 4 = .ok (.iload_n 1, 1) := by decide +kernel
theorem dX9_light_5 : decode cX9_light 5 = .ok (.ifCond .le 18, 3) := by decide +kernel
theorem dX9_light_8 : decode cX9_light 8 = .ok (.iload_n 1, 1) := by decide +kernel
theorem dX9_light_9 : decode cX9_light 9 = .ok (.aload_n 0, 1) := by decide +kernel
theorem dX9_light_10 : decode cX9_light 10 = .ok (.getfield 10, 3) := by decide +kernel
theorem dX9_light_13 : decode cX9_light 13 = .ok (.getfield 109, 3) := by decide +kernel
theorem dX9_light_16 : decode cX9_light 16 = .ok (.if_icmp .ge 7, 3) := by decide +kernel
theorem dX9_light_19 : decode cX9_light 19 = .ok (.iconst 1, 1) := by decide +kernel
theorem dX9_light_20 : decode cX9_light 20 = .ok (.goto 4, 3) := by decide +kernel
theorem dX9_light_23 : decode cX9_light 23 = .ok (.iconst 0, 1) := by decide +kernel
theorem dX9_light_24 : decode cX9_light 24 = .ok (.istore_n 3, 1) := by decide +kernel
theorem dX9_light_25 : decode cX9_light 25 = .ok (.iload_n 3, 1) := by decide +kernel
theorem dX9_light_26 : decode cX9_light 26 = .ok (.ifCond .eq 13, 3) := by decide +kernel
theorem dX9_light_29 : decode cX9_light 29 = .ok (.iload_n 2, 1) := by decide +kernel
theorem dX9_light_30 : decode cX9_light 30 = .ok (.iconst 0, 1) := by decide +kernel
theorem dX9_light_31 : decode cX9_light 31 = .ok (.bipush 30, 2) := by decide +kernel
theorem dX9_light_33 : decode cX9_light 33 = .ok (.invokestatic 112, 3) := by decide +kernel
theorem dX9_light_36 : decode cX9_light 36 = .ok (.ifCond .ne 5, 3) := by decide +kernel
theorem dX9_light_39 : decode cX9_light 39 = .ok (.iconst (-1), 1) := by decide +kernel
theorem dX9_light_40 : decode cX9_light 40 = .ok (.ireturn, 1) := by decide +kernel
theorem dX9_light_41 : decode cX9_light 41 = .ok (.aload_n 0, 1) := by decide +kernel
theorem dX9_light_42 : decode cX9_light 42 = .ok (.iload_n 1, 1) := by decide +kernel
theorem dX9_light_43 : decode cX9_light 43 = .ok (.iload_n 2, 1) := by decide +kernel
theorem dX9_light_44 : decode cX9_light 44 = .ok (.invokevirtual 248, 3) := by decide +kernel
theorem dX9_light_47 : decode cX9_light 47 = .ok (.ireturn, 1) := by decide +kernel
theorem dX9_split_0 : decode cX9_split 0 = .ok (.iload_n 1, 1) := by decide +kernel
theorem dX9_split_1 : decode cX9_split 1 = .ok (.iconst 0, 1) := by decide +kernel
theorem dX9_split_2 : decode cX9_split 2 = .ok (.bipush 30, 2) := by decide +kernel
theorem dX9_split_4 : decode cX9_split 4 = .ok (.invokestatic 112, 3) := by decide +kernel
theorem dX9_split_7 : decode cX9_split 7 = .ok (.ifCond .eq 12, 3) := by decide +kernel
theorem dX9_split_10 : decode cX9_split 10 = .ok (.iload_n 2, 1) := by decide +kernel
theorem dX9_split_11 : decode cX9_split 11 = .ok (.iconst 0, 1) := by decide +kernel
theorem dX9_split_12 : decode cX9_split 12 = .ok (.iconst 1, 1) := by decide +kernel
theorem dX9_split_13 : decode cX9_split 13 = .ok (.invokestatic 112, 3) := by decide +kernel
theorem dX9_split_16 : decode cX9_split 16 = .ok (.ifCond .ne 5, 3) := by decide +kernel
theorem dX9_split_19 : decode cX9_split 19 = .ok (.iconst (-1), 1) := by decide +kernel
theorem dX9_split_20 : decode cX9_split 20 = .ok (.ireturn, 1) := by decide +kernel
theorem dX9_split_21 : decode cX9_split 21 = .ok (.iconst 0, 1) := by decide +kernel
theorem dX9_split_22 : decode cX9_split 22 = .ok (.istore_n 3, 1) := by decide +kernel
theorem dX9_split_23 : decode cX9_split 23 = .ok (.aload_n 0, 1) := by decide +kernel
theorem dX9_split_24 : decode cX9_split 24 = .ok (.iconst 0, 1) := by decide +kernel
theorem dX9_split_25 : decode cX9_split 25 = .ok (.iload_n 1, 1) := by decide +kernel
theorem dX9_split_26 : decode cX9_split 26 = .ok (.invokevirtual 248, 3) := by decide +kernel
theorem dX9_split_29 : decode cX9_split 29 = .ok (.istore 4, 2) := by decide +kernel
theorem dX9_split_31 : decode cX9_split 31 = .ok (.iconst 1, 1) := by decide +kernel
theorem dX9_split_32 : decode cX9_split 32 = .ok (.istore 5, 2) := by decide +kernel
theorem dX9_split_34 : decode cX9_split 34 = .ok (.iload 5, 2) := by decide +kernel
theorem dX9_split_36 : decode cX9_split 36 = .ok (.aload_n 0, 1) := by decide +kernel
theorem dX9_split_37 : decode cX9_split 37 = .ok (.getfield 10, 3) := by decide +kernel
theorem dX9_split_40 : decode cX9_split 40 = .ok (.getfield 109, 3) := by decide +kernel
theorem dX9_split_43 : decode cX9_split 43 = .ok (.if_icmp .ge 32, 3) := by decide +kernel
theorem dX9_split_46 : decode cX9_split 46 = .ok (.aload_n 0, 1) := by decide +kernel
theorem dX9_split_47 : decode cX9_split 47 = .ok (.iload 5, 2) := by decide +kernel
theorem dX9_split_49 : decode cX9_split 49 = .ok (.iload_n 1, 1) := by decide +kernel
theorem dX9_split_50 : decode cX9_split 50 = .ok (.invokevirtual 248, 3) := by decide +kernel
theorem dX9_split_53 : decode cX9_split 53 = .ok (.istore 6, 2) := by decide +kernel
theorem dX9_split_55 : decode cX9_split 55 = .ok (.iload 6, 2) := by decide +kernel
theorem dX9_split_57 : decode cX9_split 57 = .ok (.iload 4, 2) := by decide +kernel
theorem dX9_split_59 : decode cX9_split 59 = .ok (.if_icmp .le 10, 3) := by decide +kernel
theorem dX9_split_62 : decode cX9_split 62 = .ok (.iload 5, 2) := by decide +kernel
theorem dX9_split_64 : decode cX9_split 64 = .ok (.istore_n 3, 1) := by decide +kernel
theorem dX9_split_65 : decode cX9_split 65 = .ok (.iload 6, 2) := by decide +kernel
theorem dX9_split_67 : decode cX9_split 67 = .ok (.istore 4, 2) := by decide +kernel
theorem dX9_split_69 : decode cX9_split 69 = .ok (.iinc 5 1, 3) := by decide +kernel
theorem dX9_split_72 : decode cX9_split 72 = .ok (.goto (-38), 3) := by decide +kernel
theorem dX9_split_75 : decode cX9_split 75 = .ok (.iload_n 2, 1) := by decide +kernel
theorem dX9_split_76 : decode cX9_split 76 = .ok (.ifCond .ne 7, 3) := by decide +kernel
theorem dX9_split_79 : decode cX9_split 79 = .ok (.iload_n 3, 1) := by decide +kernel
theorem dX9_split_80 : decode cX9_split 80 = .ok (.goto 5, 3) := by decide +kernel
theorem dX9_split_83 : decode cX9_split 83 = .ok (.iload 4, 2) := by decide +kernel
theorem dX9_split_85 : decode cX9_split 85 = .ok (.ireturn, 1) := by decide +kernel
theorem dX9_beat_0 : decode cX9_beat 0 = .ok (.aload_n 0, 1) := by decide +kernel
theorem dX9_beat_1 : decode cX9_beat 1 = .ok (.getfield 10, 3) := by decide +kernel
theorem dX9_beat_4 : decode cX9_beat 4 = .ok (.iload_n 1, 1) := by decide +kernel
theorem dX9_beat_5 : decode cX9_beat 5 = .ok (.invokevirtual 54, 3) := by decide +kernel
theorem dX9_beat_8 : decode cX9_beat 8 = .ok (.ifCond .eq 22, 3) := by decide +kernel
theorem dX9_beat_11 : decode cX9_beat 11 = .ok (.iload_n 2, 1) := by decide +kernel
theorem dX9_beat_12 : decode cX9_beat 12 = .ok (.iconst 0, 1) := by decide +kernel
theorem dX9_beat_13 : decode cX9_beat 13 = .ok (.bipush 60, 2) := by decide +kernel
theorem dX9_beat_15 : decode cX9_beat 15 = .ok (.invokestatic 112, 3) := by decide +kernel
theorem dX9_beat_18 : decode cX9_beat 18 = .ok (.ifCond .eq 12, 3) := by decide +kernel
theorem dX9_beat_21 : decode cX9_beat 21 = .ok (.iload_n 3, 1) := by decide +kernel
theorem dX9_beat_22 : decode cX9_beat 22 = .ok (.iconst 0, 1) := by decide +kernel
theorem dX9_beat_23 : decode cX9_beat 23 = .ok (.iconst 1, 1) := by decide +kernel
theorem dX9_beat_24 : decode cX9_beat 24 = .ok (.invokestatic 112, 3) := by decide +kernel
theorem dX9_beat_27 : decode cX9_beat 27 = .ok (.ifCond .ne 5, 3) := by decide +kernel
theorem dX9_beat_30 : decode cX9_beat 30 = .ok (.iconst (-1), 1) := by decide +kernel
theorem dX9_beat_31 : decode cX9_beat 31 = .ok (.ireturn, 1) := by decide +kernel
theorem dX9_beat_32 : decode cX9_beat 32 = .ok (.iconst 0, 1) := by decide +kernel
theorem dX9_beat_33 : decode cX9_beat 33 = .ok (.istore 4, 2) := by decide +kernel
theorem dX9_beat_35 : decode cX9_beat 35 = .ok (.iconst (-1), 1) := by decide +kernel
theorem dX9_beat_36 : decode cX9_beat 36 = .ok (.istore 5, 2) := by decide +kernel
theorem dX9_beat_38 : decode cX9_beat 38 = .ok (.iconst 0, 1) := by decide +kernel
theorem dX9_beat_39 : decode cX9_beat 39 = .ok (.istore 6, 2) := by decide +kernel
theorem dX9_beat_41 : decode cX9_beat 41 = .ok (.iload 6, 2) := by decide +kernel
theorem dX9_beat_43 : decode cX9_beat 43 = .ok (.bipush 9, 2) := by decide +kernel
theorem dX9_beat_45 : decode cX9_beat 45 = .ok (.if_icmp .gt 56, 3) := by decide +kernel
theorem dX9_beat_48 : decode cX9_beat 48 = .ok (.aload_n 0, 1) := by decide +kernel
theorem dX9_beat_49 : decode cX9_beat 49 = .ok (.getfield 16, 3) := by decide +kernel
theorem dX9_beat_52 : decode cX9_beat 52 = .ok (.aload_n 0, 1) := by decide +kernel
theorem dX9_beat_53 : decode cX9_beat 53 = .ok (.getfield 10, 3) := by decide +kernel
theorem dX9_beat_56 : decode cX9_beat 56 = .ok (.invokevirtual 44, 3) := by decide +kernel
theorem dX9_beat_59 : decode cX9_beat 59 = .ok (.aload_n 0, 1) := by decide +kernel
theorem dX9_beat_60 : decode cX9_beat 60 = .ok (.getfield 16, 3) := by decide +kernel
theorem dX9_beat_63 : decode cX9_beat 63 = .ok (.getfield 62, 3) := by decide +kernel
theorem dX9_beat_66 : decode cX9_beat 66 = .ok (.iload_n 1, 1) := by decide +kernel
theorem dX9_beat_67 : decode cX9_beat 67 = .ok (.iload 6, 2) := by decide +kernel
theorem dX9_beat_69 : decode cX9_beat 69 = .ok (.iastore, 1) := by decide +kernel
theorem dX9_beat_70 : decode cX9_beat 70 = .ok (.aload_n 0, 1) := by decide +kernel
theorem dX9_beat_71 : decode cX9_beat 71 = .ok (.getfield 16, 3) := by decide +kernel
theorem dX9_beat_74 : decode cX9_beat 74 = .ok (.iload_n 2, 1) := by decide +kernel
theorem dX9_beat_75 : decode cX9_beat 75 = .ok (.invokestatic 251, 3) := by decide +kernel
theorem dX9_beat_78 : decode cX9_beat 78 = .ok (.istore 7, 2) := by decide +kernel
theorem dX9_beat_80 : decode cX9_beat 80 = .ok (.iload 7, 2) := by decide +kernel
theorem dX9_beat_82 : decode cX9_beat 82 = .ok (.iload 5, 2) := by decide +kernel
theorem dX9_beat_84 : decode cX9_beat 84 = .ok (.if_icmp .le 11, 3) := by decide +kernel
theorem dX9_beat_87 : decode cX9_beat 87 = .ok (.iload 6, 2) := by decide +kernel
theorem dX9_beat_89 : decode cX9_beat 89 = .ok (.istore 4, 2) := by decide +kernel
theorem dX9_beat_91 : decode cX9_beat 91 = .ok (.iload 7, 2) := by decide +kernel
theorem dX9_beat_93 : decode cX9_beat 93 = .ok (.istore 5, 2) := by decide +kernel
theorem dX9_beat_95 : decode cX9_beat 95 = .ok (.iinc 6 1, 3) := by decide +kernel
theorem dX9_beat_98 : decode cX9_beat 98 = .ok (.goto (-57), 3) := by decide +kernel
theorem dX9_beat_101 : decode cX9_beat 101 = .ok (.iload_n 3, 1) := by decide +kernel
theorem dX9_beat_102 : decode cX9_beat 102 = .ok (.ifCond .ne 8, 3) := by decide +kernel
theorem dX9_beat_105 : decode cX9_beat 105 = .ok (.iload 4, 2) := by decide +kernel
theorem dX9_beat_107 : decode cX9_beat 107 = .ok (.goto 5, 3) := by decide +kernel
theorem dX9_beat_110 : decode cX9_beat 110 = .ok (.iload 5, 2) := by decide +kernel
theorem dX9_beat_112 : decode cX9_beat 112 = .ok (.ireturn, 1) := by decide +kernel
theorem dX9_end_0 : decode cX9_end 0 = .ok (.iload_n 1, 1) := by decide +kernel
theorem dX9_end_1 : decode cX9_end 1 = .ok (.iconst 0, 1) := by decide +kernel
theorem dX9_end_2 : decode cX9_end 2 = .ok (.iconst 1, 1) := by decide +kernel
theorem dX9_end_3 : decode cX9_end 3 = .ok (.invokestatic 112, 3) := by decide +kernel
theorem dX9_end_6 : decode cX9_end 6 = .ok (.ifCond .ne 5, 3) := by decide +kernel
theorem dX9_end_9 : decode cX9_end 9 = .ok (.iconst (-1), 1) := by decide +kernel
theorem dX9_end_10 : decode cX9_end 10 = .ok (.ireturn, 1) := by decide +kernel
theorem dX9_end_11 : decode cX9_end 11 = .ok (.iconst 0, 1) := by decide +kernel
theorem dX9_end_12 : decode cX9_end 12 = .ok (.istore_n 2, 1) := by decide +kernel
theorem dX9_end_13 : decode cX9_end 13 = .ok (.iconst 0, 1) := by decide +kernel
theorem dX9_end_14 : decode cX9_end 14 = .ok (.istore_n 3, 1) := by decide +kernel
theorem dX9_end_15 : decode cX9_end 15 = .ok (.iconst 0, 1) := by decide +kernel
theorem dX9_end_16 : decode cX9_end 16 = .ok (.istore 4, 2) := by decide +kernel
theorem dX9_end_18 : decode cX9_end 18 = .ok (.iload 4, 2) := by decide +kernel
theorem dX9_end_20 : decode cX9_end 20 = .ok (.aload_n 0, 1) := by decide +kernel
theorem dX9_end_21 : decode cX9_end 21 = .ok (.getfield 10, 3) := by decide +kernel
theorem dX9_end_24 : decode cX9_end 24 = .ok (.getfield 109, 3) := by decide +kernel
theorem dX9_end_27 : decode cX9_end 27 = .ok (.if_icmp .ge 49, 3) := by decide +kernel
theorem dX9_end_30 : decode cX9_end 30 = .ok (.iload_n 2, 1) := by decide +kernel
theorem dX9_end_31 : decode cX9_end 31 = .ok (.iload 4, 2) := by decide +kernel
theorem dX9_end_33 : decode cX9_end 33 = .ok (.aload_n 0, 1) := by decide +kernel
theorem dX9_end_34 : decode cX9_end 34 = .ok (.getfield 10, 3) := by decide +kernel
theorem dX9_end_37 : decode cX9_end 37 = .ok (.iload 4, 2) := by decide +kernel
theorem dX9_end_39 : decode cX9_end 39 = .ok (.invokevirtual 254, 3) := by decide +kernel
theorem dX9_end_42 : decode cX9_end 42 = .ok (.imul, 1) := by decide +kernel
theorem dX9_end_43 : decode cX9_end 43 = .ok (.iadd, 1) := by decide +kernel
theorem dX9_end_44 : decode cX9_end 44 = .ok (.istore_n 2, 1) := by decide +kernel
theorem dX9_end_45 : decode cX9_end 45 = .ok (.iload_n 3, 1) := by decide +kernel
theorem dX9_end_46 : decode cX9_end 46 = .ok (.aload_n 0, 1) := by decide +kernel
theorem dX9_end_47 : decode cX9_end 47 = .ok (.getfield 10, 3) := by decide +kernel
theorem dX9_end_50 : decode cX9_end 50 = .ok (.getfield 109, 3) := by decide +kernel
theorem dX9_end_53 : decode cX9_end 53 = .ok (.iconst 1, 1) := by decide +kernel
theorem dX9_end_54 : decode cX9_end 54 = .ok (.isub, 1) := by decide +kernel
theorem dX9_end_55 : decode cX9_end 55 = .ok (.iload 4, 2) := by decide +kernel
theorem dX9_end_57 : decode cX9_end 57 = .ok (.isub, 1) := by decide +kernel
theorem dX9_end_58 : decode cX9_end 58 = .ok (.aload_n 0, 1) := by decide +kernel
theorem dX9_end_59 : decode cX9_end 59 = .ok (.getfield 10, 3) := by decide +kernel
theorem dX9_end_62 : decode cX9_end 62 = .ok (.iload 4, 2) := by decide +kernel
theorem dX9_end_64 : decode cX9_end 64 = .ok (.invokevirtual 254, 3) := by decide +kernel
theorem dX9_end_67 : decode cX9_end 67 = .ok (.imul, 1) := by decide +kernel
theorem dX9_end_68 : decode cX9_end 68 = .ok (.iadd, 1) := by decide +kernel
theorem dX9_end_69 : decode cX9_end 69 = .ok (.istore_n 3, 1) := by decide +kernel
theorem dX9_end_70 : decode cX9_end 70 = .ok (.iinc 4 1, 3) := by decide +kernel
theorem dX9_end_73 : decode cX9_end 73 = .ok (.goto (-55), 3) := by decide +kernel
theorem dX9_end_76 : decode cX9_end 76 = .ok (.iload_n 1, 1) := by decide +kernel
theorem dX9_end_77 : decode cX9_end 77 = .ok (.ifCond .ne 17, 3) := by decide +kernel
theorem dX9_end_80 : decode cX9_end 80 = .ok (.iload_n 3, 1) := by decide +kernel
theorem dX9_end_81 : decode cX9_end 81 = .ok (.iload_n 2, 1) := by decide +kernel
theorem dX9_end_82 : decode cX9_end 82 = .ok (.if_icmp .ge 7, 3) := by decide +kernel
theorem dX9_end_85 : decode cX9_end 85 = .ok (.iconst 1, 1) := by decide +kernel
theorem dX9_end_86 : decode cX9_end 86 = .ok (.goto 4, 3) := by decide +kernel
theorem dX9_end_89 : decode cX9_end 89 = .ok (.iconst 0, 1) := by decide +kernel
theorem dX9_end_90 : decode cX9_end 90 = .ok (.invokestatic 71, 3) := by decide +kernel
theorem dX9_end_93 : decode cX9_end 93 = .ok (.ireturn, 1) := by decide +kernel
theorem dX9_end_94 : decode cX9_end 94 = .ok (.iload_n 2, 1) := by decide +kernel
theorem dX9_end_95 : decode cX9_end 95 = .ok (.iload_n 3, 1) := by decide +kernel
theorem dX9_end_96 : decode cX9_end 96 = .ok (.invokestatic 256, 3) := by decide +kernel
theorem dX9_end_99 : decode cX9_end 99 = .ok (.ireturn, 1) := by decide +kernel
theorem dX9_whatIs_0 : decode cX9_whatIs 0 = .ok (.iload_n 1, 1) := by decide +kernel
theorem dX9_whatIs_1 : decode cX9_whatIs 1 = .ok (.invokestatic 228, 3) := by decide +kernel
theorem dX9_whatIs_4 : decode cX9_whatIs 4 = .ok (.ifCond .eq 23, 3) := by decide +kernel
theorem dX9_whatIs_7 : decode cX9_whatIs 7 = .ok (.aload_n 0, 1) := by decide +kernel
theorem dX9_whatIs_8 : decode cX9_whatIs 8 = .ok (.getfield 10, 3) := by decide +kernel
theorem dX9_whatIs_11 : decode cX9_whatIs 11 = .ok (.iload_n 2, 1) := by decide +kernel
theorem dX9_whatIs_12 : decode cX9_whatIs 12 = .ok (.invokevirtual 54, 3) := by decide +kernel
theorem dX9_whatIs_15 : decode cX9_whatIs 15 = .ok (.ifCond .eq 12, 3) := by decide +kernel
theorem dX9_whatIs_18 : decode cX9_whatIs 18 = .ok (.iload_n 3, 1) := by decide +kernel
theorem dX9_whatIs_19 : decode cX9_whatIs 19 = .ok (.iconst 0, 1) := by decide +kernel
theorem dX9_whatIs_20 : decode cX9_whatIs 20 = .ok (.iconst 1, 1) := by decide +kernel
theorem dX9_whatIs_21 : decode cX9_whatIs 21 = .ok (.invokestatic 112, 3) := by decide +kernel
theorem dX9_whatIs_24 : decode cX9_whatIs 24 = .ok (.ifCond .ne 5, 3) := by decide +kernel
theorem dX9_whatIs_27 : decode cX9_whatIs 27 = .ok (.iconst (-1), 1) := by decide +kernel
theorem dX9_whatIs_28 : decode cX9_whatIs 28 = .ok (.ireturn, 1) := by decide +kernel
theorem dX9_whatIs_29 : decode cX9_whatIs 29 = .ok (.aload_n 0, 1) := by decide +kernel
theorem dX9_whatIs_30 : decode cX9_whatIs 30 = .ok (.iload_n 1, 1) := by decide +kernel
theorem dX9_whatIs_31 : decode cX9_whatIs 31 = .ok (.invokevirtual 36, 3) := by decide +kernel
theorem dX9_whatIs_34 : decode cX9_whatIs 34 = .ok (.istore 4, 2) := by decide +kernel
theorem dX9_whatIs_36 : decode cX9_whatIs 36 = .ok (.iload 4, 2) := by decide +kernel
theorem dX9_whatIs_38 : decode cX9_whatIs 38 = .ok (.ifCond .eq 6, 3) := by decide +kernel
theorem dX9_whatIs_41 : decode cX9_whatIs 41 = .ok (.iload 4, 2) := by decide +kernel
theorem dX9_whatIs_43 : decode cX9_whatIs 43 = .ok (.ireturn, 1) := by decide +kernel
theorem dX9_whatIs_44 : decode cX9_whatIs 44 = .ok (.iload_n 3, 1) := by decide +kernel
theorem dX9_whatIs_45 : decode cX9_whatIs 45 = .ok (.ifCond .ne 17, 3) := by decide +kernel
theorem dX9_whatIs_48 : decode cX9_whatIs 48 = .ok (.aload_n 0, 1) := by decide +kernel
theorem dX9_whatIs_49 : decode cX9_whatIs 49 = .ok (.aload_n 0, 1) := by decide +kernel
theorem dX9_whatIs_50 : decode cX9_whatIs 50 = .ok (.getfield 24, 3) := by decide +kernel
theorem dX9_whatIs_53 : decode cX9_whatIs 53 = .ok (.iload_n 1, 1) := by decide +kernel
theorem dX9_whatIs_54 : decode cX9_whatIs 54 = .ok (.aaload, 1) := by decide +kernel
theorem dX9_whatIs_55 : decode cX9_whatIs 55 = .ok (.iload_n 2, 1) := by decide +kernel
theorem dX9_whatIs_56 : decode cX9_whatIs 56 = .ok (.invokevirtual 261, 3) := by decide +kernel
theorem dX9_whatIs_59 : decode cX9_whatIs 59 = .ok (.goto 14, 3) := by decide +kernel
theorem dX9_whatIs_62 : decode cX9_whatIs 62 = .ok (.aload_n 0, 1) := by decide +kernel
theorem dX9_whatIs_63 : decode cX9_whatIs 63 = .ok (.aload_n 0, 1) := by decide +kernel
theorem dX9_whatIs_64 : decode cX9_whatIs 64 = .ok (.getfield 24, 3) := by decide +kernel
theorem dX9_whatIs_67 : decode cX9_whatIs 67 = .ok (.iload_n 1, 1) := by decide +kernel
theorem dX9_whatIs_68 : decode cX9_whatIs 68 = .ok (.aaload, 1) := by decide +kernel
theorem dX9_whatIs_69 : decode cX9_whatIs 69 = .ok (.iload_n 2, 1) := by decide +kernel
theorem dX9_whatIs_70 : decode cX9_whatIs 70 = .ok (.invokevirtual 264, 3) := by decide +kernel
theorem dX9_whatIs_73 : decode cX9_whatIs 73 = .ok (.ireturn, 1) := by decide +kernel
theorem dX9_wornFrom_0 : decode cX9_wornFrom 0 = .ok (.iload_n 1, 1) := by decide +kernel
theorem dX9_wornFrom_1 : decode cX9_wornFrom 1 = .ok (.invokestatic 228, 3) := by decide +kernel
theorem dX9_wornFrom_4 : decode cX9_wornFrom 4 = .ok (.ifCond .eq 23, 3) := by decide +kernel
theorem dX9_wornFrom_7 : decode cX9_wornFrom 7 = .ok (.aload_n 0, 1) := by decide +kernel
theorem dX9_wornFrom_8 : decode cX9_wornFrom 8 = .ok (.getfield 10, 3) := by decide +kernel
theorem dX9_wornFrom_11 : decode cX9_wornFrom 11 = .ok (.iload_n 2, 1) := by decide +kernel
theorem dX9_wornFrom_12 : decode cX9_wornFrom 12 = .ok (.invokevirtual 54, 3) := by decide +kernel
theorem dX9_wornFrom_15 : decode cX9_wornFrom 15 = .ok (.ifCond .eq 12, 3) := by decide +kernel
theorem dX9_wornFrom_18 : decode cX9_wornFrom 18 = .ok (.iload_n 3, 1) := by decide +kernel
theorem dX9_wornFrom_19 : decode cX9_wornFrom 19 = .ok (.iconst 0, 1) := by decide +kernel
theorem dX9_wornFrom_20 : decode cX9_wornFrom 20 = .ok (.iconst 2, 1) := by decide +kernel
theorem dX9_wornFrom_21 : decode cX9_wornFrom 21 = .ok (.invokestatic 112, 3) := by decide +kernel
theorem dX9_wornFrom_24 : decode cX9_wornFrom 24 = .ok (.ifCond .ne 5, 3) := by decide +kernel
theorem dX9_wornFrom_27 : decode cX9_wornFrom 27 = .ok (.iconst (-1), 1) := by decide +kernel
theorem dX9_wornFrom_28 : decode cX9_wornFrom 28 = .ok (.ireturn, 1) := by decide +kernel
theorem dX9_wornFrom_29 : decode cX9_wornFrom 29 = .ok (.aload_n 0, 1) := by decide +kernel
theorem dX9_wornFrom_30 : decode cX9_wornFrom 30 = .ok (.iload_n 1, 1) := by decide +kernel
theorem dX9_wornFrom_31 : decode cX9_wornFrom 31 = .ok (.invokevirtual 36, 3) := by decide +kernel
theorem dX9_wornFrom_34 : decode cX9_wornFrom 34 = .ok (.istore 4, 2) := by decide +kernel
theorem dX9_wornFrom_36 : decode cX9_wornFrom 36 = .ok (.iload 4, 2) := by decide +kernel
theorem dX9_wornFrom_38 : decode cX9_wornFrom 38 = .ok (.ifCond .eq 6, 3) := by decide +kernel
theorem dX9_wornFrom_41 : decode cX9_wornFrom 41 = .ok (.iload 4, 2) := by decide +kernel
theorem dX9_wornFrom_43 : decode cX9_wornFrom 43 = .ok (.ireturn, 1) := by decide +kernel
theorem dX9_wornFrom_44 : decode cX9_wornFrom 44 = .ok (.iconst 0, 1) := by decide +kernel
theorem dX9_wornFrom_45 : decode cX9_wornFrom 45 = .ok (.istore 5, 2) := by decide +kernel
theorem dX9_wornFrom_47 : decode cX9_wornFrom 47 = .ok (.bipush (-4), 2) := by decide +kernel
theorem dX9_wornFrom_49 : decode cX9_wornFrom 49 = .ok (.istore 6, 2) := by decide +kernel
theorem dX9_wornFrom_51 : decode cX9_wornFrom 51 = .ok (.bipush (-4), 2) := by decide +kernel
theorem dX9_wornFrom_53 : decode cX9_wornFrom 53 = .ok (.istore 7, 2) := by decide +kernel
theorem dX9_wornFrom_55 : decode cX9_wornFrom 55 = .ok (.iconst 0, 1) := by decide +kernel
theorem dX9_wornFrom_56 : decode cX9_wornFrom 56 = .ok (.istore 8, 2) := by decide +kernel
theorem dX9_wornFrom_58 : decode cX9_wornFrom 58 = .ok (.iload 8, 2) := by decide +kernel
theorem dX9_wornFrom_60 : decode cX9_wornFrom 60 = .ok (.bipush 100, 2) := by decide +kernel
theorem dX9_wornFrom_62 : decode cX9_wornFrom 62 = .ok (.if_icmp .ge 72, 3) := by decide +kernel
theorem dX9_wornFrom_65 : decode cX9_wornFrom 65 = .ok (.aload_n 0, 1) := by decide +kernel
theorem dX9_wornFrom_66 : decode cX9_wornFrom 66 = .ok (.getfield 16, 3) := by decide +kernel
theorem dX9_wornFrom_69 : decode cX9_wornFrom 69 = .ok (.aload_n 0, 1) := by decide +kernel
theorem dX9_wornFrom_70 : decode cX9_wornFrom 70 = .ok (.getfield 10, 3) := by decide +kernel
theorem dX9_wornFrom_73 : decode cX9_wornFrom 73 = .ok (.invokevirtual 44, 3) := by decide +kernel
theorem dX9_wornFrom_76 : decode cX9_wornFrom 76 = .ok (.aload_n 0, 1) := by decide +kernel
theorem dX9_wornFrom_77 : decode cX9_wornFrom 77 = .ok (.getfield 16, 3) := by decide +kernel
theorem dX9_wornFrom_80 : decode cX9_wornFrom 80 = .ok (.getfield 65, 3) := by decide +kernel
theorem dX9_wornFrom_83 : decode cX9_wornFrom 83 = .ok (.iload_n 2, 1) := by decide +kernel
theorem dX9_wornFrom_84 : decode cX9_wornFrom 84 = .ok (.iload 8, 2) := by decide +kernel
theorem dX9_wornFrom_86 : decode cX9_wornFrom 86 = .ok (.iastore, 1) := by decide +kernel
theorem dX9_wornFrom_87 : decode cX9_wornFrom 87 = .ok (.aload_n 0, 1) := by decide +kernel
theorem dX9_wornFrom_88 : decode cX9_wornFrom 88 = .ok (.getfield 16, 3) := by decide +kernel
theorem dX9_wornFrom_91 : decode cX9_wornFrom 91 = .ok (.iload_n 2, 1) := by decide +kernel
theorem dX9_wornFrom_92 : decode cX9_wornFrom 92 = .ok (.aload_n 0, 1) := by decide +kernel
theorem dX9_wornFrom_93 : decode cX9_wornFrom 93 = .ok (.getfield 24, 3) := by decide +kernel
theorem dX9_wornFrom_96 : decode cX9_wornFrom 96 = .ok (.iload_n 1, 1) := by decide +kernel
theorem dX9_wornFrom_97 : decode cX9_wornFrom 97 = .ok (.aaload, 1) := by decide +kernel
theorem dX9_wornFrom_98 : decode cX9_wornFrom 98 = .ok (.iconst 1, 1) := by decide +kernel
theorem dX9_wornFrom_99 : decode cX9_wornFrom 99 = .ok (.invokestatic 267, 3) := by decide +kernel
theorem dX9_wornFrom_102 : decode cX9_wornFrom 102 = .ok (.ifCond .eq 26, 3) := by decide +kernel
theorem dX9_wornFrom_105 : decode cX9_wornFrom 105 = .ok (.iinc 5 1, 3) := by decide +kernel
theorem dX9_wornFrom_108 : decode cX9_wornFrom 108 = .ok (.iload 6, 2) := by decide +kernel
theorem dX9_wornFrom_110 : decode cX9_wornFrom 110 = .ok (.bipush (-4), 2) := by decide +kernel
theorem dX9_wornFrom_112 : decode cX9_wornFrom 112 = .ok (.if_icmp .ne 8, 3) := by decide +kernel
theorem dX9_wornFrom_115 : decode cX9_wornFrom 115 = .ok (.iload 8, 2) := by decide +kernel
theorem dX9_wornFrom_117 : decode cX9_wornFrom 117 = .ok (.goto 5, 3) := by decide +kernel
theorem dX9_wornFrom_120 : decode cX9_wornFrom 120 = .ok (.iload 6, 2) := by decide +kernel
theorem dX9_wornFrom_122 : decode cX9_wornFrom 122 = .ok (.istore 6, 2) := by decide +kernel
theorem dX9_wornFrom_124 : decode cX9_wornFrom 124 = .ok (.iload 8, 2) := by decide +kernel
theorem dX9_wornFrom_126 : decode cX9_wornFrom 126 = .ok (.istore 7, 2) := by decide +kernel
theorem dX9_wornFrom_128 : decode cX9_wornFrom 128 = .ok (.iinc 8 1, 3) := by decide +kernel
theorem dX9_wornFrom_131 : decode cX9_wornFrom 131 = .ok (.goto (-73), 3) := by decide +kernel
theorem dX9_wornFrom_134 : decode cX9_wornFrom 134 = .ok (.iload_n 3, 1) := by decide +kernel
theorem dX9_wornFrom_135 : decode cX9_wornFrom 135 = .ok (.ifCond .ne 6, 3) := by decide +kernel
theorem dX9_wornFrom_138 : decode cX9_wornFrom 138 = .ok (.iload 5, 2) := by decide +kernel
theorem dX9_wornFrom_140 : decode cX9_wornFrom 140 = .ok (.ireturn, 1) := by decide +kernel
theorem dX9_wornFrom_141 : decode cX9_wornFrom 141 = .ok (.iload_n 3, 1) := by decide +kernel
theorem dX9_wornFrom_142 : decode cX9_wornFrom 142 = .ok (.iconst 1, 1) := by decide +kernel
theorem dX9_wornFrom_143 : decode cX9_wornFrom 143 = .ok (.if_icmp .ne 8, 3) := by decide +kernel
theorem dX9_wornFrom_146 : decode cX9_wornFrom 146 = .ok (.iload 6, 2) := by decide +kernel
theorem dX9_wornFrom_148 : decode cX9_wornFrom 148 = .ok (.goto 5, 3) := by decide +kernel
theorem dX9_wornFrom_151 : decode cX9_wornFrom 151 = .ok (.iload 7, 2) := by decide +kernel
theorem dX9_wornFrom_153 : decode cX9_wornFrom 153 = .ok (.ireturn, 1) := by decide +kernel
theorem dX9_frost_0 : decode cX9_frost 0 = .ok (.aload_n 0, 1) := by decide +kernel
theorem dX9_frost_1 : decode cX9_frost 1 = .ok (.getfield 10, 3) := by decide +kernel
theorem dX9_frost_4 : decode cX9_frost 4 = .ok (.iload_n 1, 1) := by decide +kernel
theorem dX9_frost_5 : decode cX9_frost 5 = .ok (.invokevirtual 54, 3) := by decide +kernel
theorem dX9_frost_8 : decode cX9_frost 8 = .ok (.ifCond .eq 31, 3) := by decide +kernel
theorem dX9_frost_11 : decode cX9_frost 11 = .ok (.iload_n 2, 1) := by decide +kernel
theorem dX9_frost_12 : decode cX9_frost 12 = .ok (.iconst 0, 1) := by decide +kernel
theorem dX9_frost_13 : decode cX9_frost 13 = .ok (.bipush 7, 2) := by decide +kernel
theorem dX9_frost_15 : decode cX9_frost 15 = .ok (.invokestatic 112, 3) := by decide +kernel
theorem dX9_frost_18 : decode cX9_frost 18 = .ok (.ifCond .eq 21, 3) := by decide +kernel
theorem dX9_frost_21 : decode cX9_frost 21 = .ok (.iload_n 3, 1) := by decide +kernel
theorem dX9_frost_22 : decode cX9_frost 22 = .ok (.iconst 2, 1) := by decide +kernel
theorem dX9_frost_23 : decode cX9_frost 23 = .ok (.bipush 20, 2) := by decide +kernel
theorem dX9_frost_25 : decode cX9_frost 25 = .ok (.invokestatic 112, 3) := by decide +kernel
theorem dX9_frost_28 : decode cX9_frost 28 = .ok (.ifCond .eq 11, 3) := by decide +kernel
theorem dX9_frost_31 : decode cX9_frost 31 = .ok (.iload 4, 2) := by decide +kernel
theorem dX9_frost_33 : decode cX9_frost 33 = .ok (.invokestatic 192, 3) := by decide +kernel
theorem dX9_frost_36 : decode cX9_frost 36 = .ok (.ifCond .ne 8, 3) := by decide +kernel
theorem dX9_frost_39 : decode cX9_frost 39 = .ok (.iconst (-1), 1) := by decide +kernel
theorem dX9_frost_40 : decode cX9_frost 40 = .ok (.invokestatic 195, 3) := by decide +kernel
theorem dX9_frost_43 : decode cX9_frost 43 = .ok (.lreturn, 1) := by decide +kernel
theorem dX9_frost_44 : decode cX9_frost 44 = .ok (.lconst 0, 1) := by decide +kernel
theorem dX9_frost_45 : decode cX9_frost 45 = .ok (.lstore 5, 2) := by decide +kernel
theorem dX9_frost_47 : decode cX9_frost 47 = .ok (.iconst 0, 1) := by decide +kernel
theorem dX9_frost_48 : decode cX9_frost 48 = .ok (.istore 7, 2) := by decide +kernel
theorem dX9_frost_50 : decode cX9_frost 50 = .ok (.iload 7, 2) := by decide +kernel
theorem dX9_frost_52 : decode cX9_frost 52 = .ok (.iconst 1, 1) := by decide +kernel
theorem dX9_frost_53 : decode cX9_frost 53 = .ok (.iload_n 2, 1) := by decide +kernel
theorem dX9_frost_54 : decode cX9_frost 54 = .ok (.ishl, 1) := by decide +kernel
theorem dX9_frost_55 : decode cX9_frost 55 = .ok (.if_icmp .ge 60, 3) := by decide +kernel
theorem dX9_frost_58 : decode cX9_frost 58 = .ok (.aload_n 0, 1) := by decide +kernel
theorem dX9_frost_59 : decode cX9_frost 59 = .ok (.getfield 16, 3) := by decide +kernel
theorem dX9_frost_62 : decode cX9_frost 62 = .ok (.aload_n 0, 1) := by decide +kernel
theorem dX9_frost_63 : decode cX9_frost 63 = .ok (.getfield 10, 3) := by decide +kernel
theorem dX9_frost_66 : decode cX9_frost 66 = .ok (.invokevirtual 44, 3) := by decide +kernel
theorem dX9_frost_69 : decode cX9_frost 69 = .ok (.aload_n 0, 1) := by decide +kernel
theorem dX9_frost_70 : decode cX9_frost 70 = .ok (.getfield 16, 3) := by decide +kernel
theorem dX9_frost_73 : decode cX9_frost 73 = .ok (.iload_n 2, 1) := by decide +kernel
theorem dX9_frost_74 : decode cX9_frost 74 = .ok (.iload 7, 2) := by decide +kernel
theorem dX9_frost_76 : decode cX9_frost 76 = .ok (.invokevirtual 271, 3) := by decide +kernel
theorem dX9_frost_79 : decode cX9_frost 79 = .ok (.aload_n 0, 1) := by decide +kernel
theorem dX9_frost_80 : decode cX9_frost 80 = .ok (.getfield 16, 3) := by decide +kernel
theorem dX9_frost_83 : decode cX9_frost 83 = .ok (.iload_n 1, 1) := by decide +kernel
theorem dX9_frost_84 : decode cX9_frost 84 = .ok (.invokevirtual 68, 3) := by decide +kernel
theorem dX9_frost_87 : decode cX9_frost 87 = .ok (.ifCond .eq 22, 3) := by decide +kernel
theorem dX9_frost_90 : decode cX9_frost 90 = .ok (.lload 5, 2) := by decide +kernel
theorem dX9_frost_92 : decode cX9_frost 92 = .ok (.iload_n 3, 1) := by decide +kernel
theorem dX9_frost_93 : decode cX9_frost 93 = .ok (.iconst 1, 1) := by decide +kernel
theorem dX9_frost_94 : decode cX9_frost 94 = .ok (.isub, 1) := by decide +kernel
theorem dX9_frost_95 : decode cX9_frost 95 = .ok (.i2l, 1) := by decide +kernel
theorem dX9_frost_96 : decode cX9_frost 96 = .ok (.iload_n 2, 1) := by decide +kernel
theorem dX9_frost_97 : decode cX9_frost 97 = .ok (.iload 7, 2) := by decide +kernel
theorem dX9_frost_99 : decode cX9_frost 99 = .ok (.invokestatic 215, 3) := by decide +kernel
theorem dX9_frost_102 : decode cX9_frost 102 = .ok (.isub, 1) := by decide +kernel
theorem dX9_frost_103 : decode cX9_frost 103 = .ok (.invokestatic 274, 3) := by decide +kernel
theorem dX9_frost_106 : decode cX9_frost 106 = .ok (.ladd, 1) := by decide +kernel
theorem dX9_frost_107 : decode cX9_frost 107 = .ok (.lstore 5, 2) := by decide +kernel
theorem dX9_frost_109 : decode cX9_frost 109 = .ok (.iinc 7 1, 3) := by decide +kernel
theorem dX9_frost_112 : decode cX9_frost 112 = .ok (.goto (-62), 3) := by decide +kernel
theorem dX9_frost_115 : decode cX9_frost 115 = .ok (.lload 5, 2) := by decide +kernel
theorem dX9_frost_117 : decode cX9_frost 117 = .ok (.iload_n 3, 1) := by decide +kernel
theorem dX9_frost_118 : decode cX9_frost 118 = .ok (.i2l, 1) := by decide +kernel
theorem dX9_frost_119 : decode cX9_frost 119 = .ok (.iload_n 2, 1) := by decide +kernel
theorem dX9_frost_120 : decode cX9_frost 120 = .ok (.invokestatic 274, 3) := by decide +kernel
theorem dX9_frost_123 : decode cX9_frost 123 = .ok (.iload 4, 2) := by decide +kernel
theorem dX9_frost_125 : decode cX9_frost 125 = .ok (.invokestatic 206, 3) := by decide +kernel
theorem dX9_frost_128 : decode cX9_frost 128 = .ok (.lreturn, 1) := by decide +kernel
theorem dX9_share_0 : decode cX9_share 0 = .ok (.aload_n 0, 1) := by decide +kernel
theorem dX9_share_1 : decode cX9_share 1 = .ok (.getfield 10, 3) := by decide +kernel
theorem dX9_share_4 : decode cX9_share 4 = .ok (.iload_n 1, 1) := by decide +kernel
theorem dX9_share_5 : decode cX9_share 5 = .ok (.invokevirtual 54, 3) := by decide +kernel
theorem dX9_share_8 : decode cX9_share 8 = .ok (.ifCond .eq 10, 3) := by decide +kernel
theorem dX9_share_11 : decode cX9_share 11 = .ok (.iload_n 2, 1) := by decide +kernel
theorem dX9_share_12 : decode cX9_share 12 = .ok (.invokestatic 192, 3) := by decide +kernel
theorem dX9_share_15 : decode cX9_share 15 = .ok (.ifCond .ne 8, 3) := by decide +kernel
theorem dX9_share_18 : decode cX9_share 18 = .ok (.iconst (-1), 1) := by decide +kernel
theorem dX9_share_19 : decode cX9_share 19 = .ok (.invokestatic 195, 3) := by decide +kernel
theorem dX9_share_22 : decode cX9_share 22 = .ok (.lreturn, 1) := by decide +kernel
theorem dX9_share_23 : decode cX9_share 23 = .ok (.aload_n 0, 1) := by decide +kernel
theorem dX9_share_24 : decode cX9_share 24 = .ok (.getfield 10, 3) := by decide +kernel
theorem dX9_share_27 : decode cX9_share 27 = .ok (.getfield 65, 3) := by decide +kernel
theorem dX9_share_30 : decode cX9_share 30 = .ok (.iload_n 1, 1) := by decide +kernel
theorem dX9_share_31 : decode cX9_share 31 = .ok (.iaload, 1) := by decide +kernel
theorem dX9_share_32 : decode cX9_share 32 = .ok (.i2l, 1) := by decide +kernel
theorem dX9_share_33 : decode cX9_share 33 = .ok (.aload_n 0, 1) := by decide +kernel
theorem dX9_share_34 : decode cX9_share 34 = .ok (.getfield 10, 3) := by decide +kernel
theorem dX9_share_37 : decode cX9_share 37 = .ok (.invokevirtual 144, 3) := by decide +kernel
theorem dX9_share_40 : decode cX9_share 40 = .ok (.i2l, 1) := by decide +kernel
theorem dX9_share_41 : decode cX9_share 41 = .ok (.iload_n 2, 1) := by decide +kernel
theorem dX9_share_42 : decode cX9_share 42 = .ok (.invokestatic 206, 3) := by decide +kernel
theorem dX9_share_45 : decode cX9_share 45 = .ok (.lreturn, 1) := by decide +kernel
theorem dX9_forged_0 : decode cX9_forged 0 = .ok (.aload_n 0, 1) := by decide +kernel
theorem dX9_forged_1 : decode cX9_forged 1 = .ok (.iload_n 1, 1) := by decide +kernel
theorem dX9_forged_2 : decode cX9_forged 2 = .ok (.invokevirtual 36, 3) := by decide +kernel
theorem dX9_forged_5 : decode cX9_forged 5 = .ok (.istore_n 2, 1) := by decide +kernel
theorem dX9_forged_6 : decode cX9_forged 6 = .ok (.iload_n 2, 1) := by decide +kernel
theorem dX9_forged_7 : decode cX9_forged 7 = .ok (.ifCond .eq 5, 3) := by decide +kernel
theorem dX9_forged_10 : decode cX9_forged 10 = .ok (.iload_n 2, 1) := by decide +kernel
theorem dX9_forged_11 : decode cX9_forged 11 = .ok (.ireturn, 1) := by decide +kernel
theorem dX9_forged_12 : decode cX9_forged 12 = .ok (.aload_n 0, 1) := by decide +kernel
theorem dX9_forged_13 : decode cX9_forged 13 = .ok (.getfield 24, 3) := by decide +kernel
theorem dX9_forged_16 : decode cX9_forged 16 = .ok (.iload_n 1, 1) := by decide +kernel
theorem dX9_forged_17 : decode cX9_forged 17 = .ok (.aaload, 1) := by decide +kernel
theorem dX9_forged_18 : decode cX9_forged 18 = .ok (.astore_n 3, 1) := by decide +kernel
theorem dX9_forged_19 : decode cX9_forged 19 = .ok (.iconst 0, 1) := by decide +kernel
theorem dX9_forged_20 : decode cX9_forged 20 = .ok (.istore 4, 2) := by decide +kernel
theorem dX9_forged_22 : decode cX9_forged 22 = .ok (.iload 4, 2) := by decide +kernel
theorem dX9_forged_24 : decode cX9_forged 24 = .ok (.aload_n 3, 1) := by decide +kernel
theorem dX9_forged_25 : decode cX9_forged 25 = .ok (.getfield 278, 3) := by decide +kernel
theorem dX9_forged_28 : decode cX9_forged 28 = .ok (.if_icmp .ge 44, 3) := by decide +kernel
theorem dX9_forged_31 : decode cX9_forged 31 = .ok (.aload_n 0, 1) := by decide +kernel
theorem dX9_forged_32 : decode cX9_forged 32 = .ok (.getfield 10, 3) := by decide +kernel
theorem dX9_forged_35 : decode cX9_forged 35 = .ok (.iload 4, 2) := by decide +kernel
theorem dX9_forged_37 : decode cX9_forged 37 = .ok (.invokevirtual 54, 3) := by decide +kernel
theorem dX9_forged_40 : decode cX9_forged 40 = .ok (.ifCond .eq 23, 3) := by decide +kernel
theorem dX9_forged_43 : decode cX9_forged 43 = .ok (.aload_n 0, 1) := by decide +kernel
theorem dX9_forged_44 : decode cX9_forged 44 = .ok (.getfield 10, 3) := by decide +kernel
theorem dX9_forged_47 : decode cX9_forged 47 = .ok (.getfield 58, 3) := by decide +kernel
theorem dX9_forged_50 : decode cX9_forged 50 = .ok (.iload 4, 2) := by decide +kernel
theorem dX9_forged_52 : decode cX9_forged 52 = .ok (.iaload, 1) := by decide +kernel
theorem dX9_forged_53 : decode cX9_forged 53 = .ok (.aload_n 3, 1) := by decide +kernel
theorem dX9_forged_54 : decode cX9_forged 54 = .ok (.getfield 281, 3) := by decide +kernel
theorem dX9_forged_57 : decode cX9_forged 57 = .ok (.iload 4, 2) := by decide +kernel
theorem dX9_forged_59 : decode cX9_forged 59 = .ok (.iaload, 1) := by decide +kernel
theorem dX9_forged_60 : decode cX9_forged 60 = .ok (.if_icmp .eq 6, 3) := by decide +kernel
theorem dX9_forged_63 : decode cX9_forged 63 = .ok (.iload 4, 2) := by decide +kernel
theorem dX9_forged_65 : decode cX9_forged 65 = .ok (.ireturn, 1) := by decide +kernel
theorem dX9_forged_66 : decode cX9_forged 66 = .ok (.iinc 4 1, 3) := by decide +kernel
theorem dX9_forged_69 : decode cX9_forged 69 = .ok (.goto (-47), 3) := by decide +kernel
theorem dX9_forged_72 : decode cX9_forged 72 = .ok (.bipush (-4), 2) := by decide +kernel
theorem dX9_forged_74 : decode cX9_forged 74 = .ok (.ireturn, 1) := by decide +kernel
theorem dX9_judge_0 : decode cX9_judge 0 = .ok (.aload_n 0, 1) := by decide +kernel
theorem dX9_judge_1 : decode cX9_judge 1 = .ok (.iload_n 1, 1) := by decide +kernel
theorem dX9_judge_2 : decode cX9_judge 2 = .ok (.invokevirtual 36, 3) := by decide +kernel
theorem dX9_judge_5 : decode cX9_judge 5 = .ok (.istore_n 2, 1) := by decide +kernel
theorem dX9_judge_6 : decode cX9_judge 6 = .ok (.iload_n 2, 1) := by decide +kernel
theorem dX9_judge_7 : decode cX9_judge 7 = .ok (.ifCond .eq 5, 3) := by decide +kernel
theorem dX9_judge_10 : decode cX9_judge 10 = .ok (.iload_n 2, 1) := by decide +kernel
theorem dX9_judge_11 : decode cX9_judge 11 = .ok (.ireturn, 1) := by decide +kernel
theorem dX9_judge_12 : decode cX9_judge 12 = .ok (.aload_n 0, 1) := by decide +kernel
theorem dX9_judge_13 : decode cX9_judge 13 = .ok (.getfield 16, 3) := by decide +kernel
theorem dX9_judge_16 : decode cX9_judge 16 = .ok (.aload_n 0, 1) := by decide +kernel
theorem dX9_judge_17 : decode cX9_judge 17 = .ok (.getfield 10, 3) := by decide +kernel
theorem dX9_judge_20 : decode cX9_judge 20 = .ok (.invokevirtual 44, 3) := by decide +kernel
theorem dX9_judge_23 : decode cX9_judge 23 = .ok (.aload_n 0, 1) := by decide +kernel
theorem dX9_judge_24 : decode cX9_judge 24 = .ok (.getfield 16, 3) := by decide +kernel
theorem dX9_judge_27 : decode cX9_judge 27 = .ok (.aload_n 0, 1) := by decide +kernel
theorem dX9_judge_28 : decode cX9_judge 28 = .ok (.getfield 24, 3) := by decide +kernel
theorem dX9_judge_31 : decode cX9_judge 31 = .ok (.iload_n 1, 1) := by decide +kernel
theorem dX9_judge_32 : decode cX9_judge 32 = .ok (.aaload, 1) := by decide +kernel
theorem dX9_judge_33 : decode cX9_judge 33 = .ok (.invokestatic 284, 3) := by decide +kernel
theorem dX9_judge_36 : decode cX9_judge 36 = .ok (.ireturn, 1) := by decide +kernel
theorem dX9_winters_0 : decode cX9_winters 0 = .ok (.iload_n 1, 1) := by decide +kernel
theorem dX9_winters_1 : decode cX9_winters 1 = .ok (.iconst 1, 1) := by decide +kernel
theorem dX9_winters_2 : decode cX9_winters 2 = .ok (.bipush 20, 2) := by decide +kernel
theorem dX9_winters_4 : decode cX9_winters 4 = .ok (.invokestatic 112, 3) := by decide +kernel
theorem dX9_winters_7 : decode cX9_winters 7 = .ok (.ifCond .eq 12, 3) := by decide +kernel
theorem dX9_winters_10 : decode cX9_winters 10 = .ok (.iload_n 3, 1) := by decide +kernel
theorem dX9_winters_11 : decode cX9_winters 11 = .ok (.iconst 0, 1) := by decide +kernel
theorem dX9_winters_12 : decode cX9_winters 12 = .ok (.iconst 1, 1) := by decide +kernel
theorem dX9_winters_13 : decode cX9_winters 13 = .ok (.invokestatic 112, 3) := by decide +kernel
theorem dX9_winters_16 : decode cX9_winters 16 = .ok (.ifCond .ne 5, 3) := by decide +kernel
theorem dX9_winters_19 : decode cX9_winters 19 = .ok (.iconst (-1), 1) := by decide +kernel
theorem dX9_winters_20 : decode cX9_winters 20 = .ok (.ireturn, 1) := by decide +kernel
theorem dX9_winters_21 : decode cX9_winters 21 = .ok (.iload_n 2, 1) := by decide +kernel
theorem dX9_winters_22 : decode cX9_winters 22 = .ok (.istore 4, 2) := by decide +kernel
theorem dX9_winters_24 : decode cX9_winters 24 = .ok (.iconst 0, 1) := by decide +kernel
theorem dX9_winters_25 : decode cX9_winters 25 = .ok (.istore 5, 2) := by decide +kernel
theorem dX9_winters_27 : decode cX9_winters 27 = .ok (.iconst 0, 1) := by decide +kernel
theorem dX9_winters_28 : decode cX9_winters 28 = .ok (.istore 6, 2) := by decide +kernel
theorem dX9_winters_30 : decode cX9_winters 30 = .ok (.iconst 0, 1) := by decide +kernel
theorem dX9_winters_31 : decode cX9_winters 31 = .ok (.istore 7, 2) := by decide +kernel
theorem dX9_winters_33 : decode cX9_winters 33 = .ok (.iload 7, 2) := by decide +kernel
theorem dX9_winters_35 : decode cX9_winters 35 = .ok (.iload_n 1, 1) := by decide +kernel
theorem dX9_winters_36 : decode cX9_winters 36 = .ok (.if_icmp .ge 83, 3) := by decide +kernel
theorem dX9_winters_39 : decode cX9_winters 39 = .ok (.aload_n 0, 1) := by decide +kernel
theorem dX9_winters_40 : decode cX9_winters 40 = .ok (.getfield 16, 3) := by decide +kernel
theorem dX9_winters_43 : decode cX9_winters 43 = .ok (.aload_n 0, 1) := by decide +kernel
theorem dX9_winters_44 : decode cX9_winters 44 = .ok (.getfield 10, 3) := by decide +kernel
theorem dX9_winters_47 : decode cX9_winters 47 = .ok (.invokevirtual 44, 3) := by decide +kernel
theorem dX9_winters_50 : decode cX9_winters 50 = .ok (.aload_n 0, 1) := by decide +kernel
theorem dX9_winters_51 : decode cX9_winters 51 = .ok (.getfield 16, 3) := by decide +kernel
theorem dX9_winters_54 : decode cX9_winters 54 = .ok (.iload 4, 2) := by decide +kernel
theorem dX9_winters_56 : decode cX9_winters 56 = .ok (.invokevirtual 288, 3) := by decide +kernel
theorem dX9_winters_59 : decode cX9_winters 59 = .ok (.istore 4, 2) := by decide +kernel
theorem dX9_winters_61 : decode cX9_winters 61 = .ok (.aload_n 0, 1) := by decide +kernel
theorem dX9_winters_62 : decode cX9_winters 62 = .ok (.getfield 16, 3) := by decide +kernel
theorem dX9_winters_65 : decode cX9_winters 65 = .ok (.bipush 20, 2) := by decide +kernel
theorem dX9_winters_67 : decode cX9_winters 67 = .ok (.invokevirtual 138, 3) := by decide +kernel
theorem dX9_winters_70 : decode cX9_winters 70 = .ok (.iload 5, 2) := by decide +kernel
theorem dX9_winters_72 : decode cX9_winters 72 = .ok (.aload_n 0, 1) := by decide +kernel
theorem dX9_winters_73 : decode cX9_winters 73 = .ok (.getfield 16, 3) := by decide +kernel
theorem dX9_winters_76 : decode cX9_winters 76 = .ok (.getfield 135, 3) := by decide +kernel
theorem dX9_winters_79 : decode cX9_winters 79 = .ok (.aload_n 0, 1) := by decide +kernel
theorem dX9_winters_80 : decode cX9_winters 80 = .ok (.getfield 10, 3) := by decide +kernel
theorem dX9_winters_83 : decode cX9_winters 83 = .ok (.getfield 135, 3) := by decide +kernel
theorem dX9_winters_86 : decode cX9_winters 86 = .ok (.isub, 1) := by decide +kernel
theorem dX9_winters_87 : decode cX9_winters 87 = .ok (.iadd, 1) := by decide +kernel
theorem dX9_winters_88 : decode cX9_winters 88 = .ok (.istore 5, 2) := by decide +kernel
theorem dX9_winters_90 : decode cX9_winters 90 = .ok (.iload 6, 2) := by decide +kernel
theorem dX9_winters_92 : decode cX9_winters 92 = .ok (.aload_n 0, 1) := by decide +kernel
theorem dX9_winters_93 : decode cX9_winters 93 = .ok (.getfield 16, 3) := by decide +kernel
theorem dX9_winters_96 : decode cX9_winters 96 = .ok (.getfield 109, 3) := by decide +kernel
theorem dX9_winters_99 : decode cX9_winters 99 = .ok (.aload_n 0, 1) := by decide +kernel
theorem dX9_winters_100 : decode cX9_winters 100 = .ok (.getfield 16, 3) := by decide +kernel
theorem dX9_winters_103 : decode cX9_winters 103 = .ok (.getfield 141, 3) := by decide +kernel
theorem dX9_winters_106 : decode cX9_winters 106 = .ok (.invokestatic 215, 3) := by decide +kernel
theorem dX9_winters_109 : decode cX9_winters 109 = .ok (.isub, 1) := by decide +kernel
theorem dX9_winters_110 : decode cX9_winters 110 = .ok (.iadd, 1) := by decide +kernel
theorem dX9_winters_111 : decode cX9_winters 111 = .ok (.istore 6, 2) := by decide +kernel
theorem dX9_winters_113 : decode cX9_winters 113 = .ok (.iinc 7 1, 3) := by decide +kernel
theorem dX9_winters_116 : decode cX9_winters 116 = .ok (.goto (-83), 3) := by decide +kernel
theorem dX9_winters_119 : decode cX9_winters 119 = .ok (.iload_n 3, 1) := by decide +kernel
theorem dX9_winters_120 : decode cX9_winters 120 = .ok (.ifCond .ne 8, 3) := by decide +kernel
theorem dX9_winters_123 : decode cX9_winters 123 = .ok (.iload 5, 2) := by decide +kernel
theorem dX9_winters_125 : decode cX9_winters 125 = .ok (.goto 5, 3) := by decide +kernel
theorem dX9_winters_128 : decode cX9_winters 128 = .ok (.iload 6, 2) := by decide +kernel
theorem dX9_winters_130 : decode cX9_winters 130 = .ok (.ireturn, 1) := by decide +kernel
theorem dX9_image_0 : decode cX9_image 0 = .ok (.aload_n 0, 1) := by decide +kernel
theorem dX9_image_1 : decode cX9_image 1 = .ok (.getfield 19, 3) := by decide +kernel
theorem dX9_image_4 : decode cX9_image 4 = .ok (.aload_n 0, 1) := by decide +kernel
theorem dX9_image_5 : decode cX9_image 5 = .ok (.getfield 10, 3) := by decide +kernel
theorem dX9_image_8 : decode cX9_image 8 = .ok (.invokevirtual 44, 3) := by decide +kernel
theorem dX9_image_11 : decode cX9_image 11 = .ok (.aload_n 0, 1) := by decide +kernel
theorem dX9_image_12 : decode cX9_image 12 = .ok (.iconst 1, 1) := by decide +kernel
theorem dX9_image_13 : decode cX9_image 13 = .ok (.putfield 291, 3) := by decide +kernel
theorem dX9_image_16 : decode cX9_image 16 = .ok (.aload_n 0, 1) := by decide +kernel
theorem dX9_image_17 : decode cX9_image 17 = .ok (.getfield 10, 3) := by decide +kernel
theorem dX9_image_20 : decode cX9_image 20 = .ok (.getfield 87, 3) := by decide +kernel
theorem dX9_image_23 : decode cX9_image 23 = .ok (.ireturn, 1) := by decide +kernel
theorem dX9_restore_0 : decode cX9_restore 0 = .ok (.aload_n 0, 1) := by decide +kernel
theorem dX9_restore_1 : decode cX9_restore 1 = .ok (.getfield 291, 3) := by decide +kernel
theorem dX9_restore_4 : decode cX9_restore 4 = .ok (.ifCond .ne 6, 3) := by decide +kernel
theorem dX9_restore_7 : decode cX9_restore 7 = .ok (.bipush (-3), 2) := by decide +kernel
theorem dX9_restore_9 : decode cX9_restore 9 = .ok (.ireturn, 1) := by decide +kernel
theorem dX9_restore_10 : decode cX9_restore 10 = .ok (.aload_n 0, 1) := by decide +kernel
theorem dX9_restore_11 : decode cX9_restore 11 = .ok (.getfield 10, 3) := by decide +kernel
theorem dX9_restore_14 : decode cX9_restore 14 = .ok (.aload_n 0, 1) := by decide +kernel
theorem dX9_restore_15 : decode cX9_restore 15 = .ok (.getfield 19, 3) := by decide +kernel
theorem dX9_restore_18 : decode cX9_restore 18 = .ok (.invokevirtual 44, 3) := by decide +kernel
theorem dX9_restore_21 : decode cX9_restore 21 = .ok (.aload_n 0, 1) := by decide +kernel
theorem dX9_restore_22 : decode cX9_restore 22 = .ok (.getfield 10, 3) := by decide +kernel
theorem dX9_restore_25 : decode cX9_restore 25 = .ok (.getfield 87, 3) := by decide +kernel
theorem dX9_restore_28 : decode cX9_restore 28 = .ok (.ireturn, 1) := by decide +kernel
theorem dX9_count_0 : decode cX9_count 0 = .ok (.iload_n 1, 1) := by decide +kernel
theorem dX9_count_1 : decode cX9_count 1 = .ok (.tableswitch 111 0 7 #[47, 55, 63, 71, 79, 87, 95, 103], 47) := by decide +kernel
theorem dX9_count_48 : decode cX9_count 48 = .ok (.aload_n 0, 1) := by decide +kernel
theorem dX9_count_49 : decode cX9_count 49 = .ok (.getfield 10, 3) := by decide +kernel
theorem dX9_count_52 : decode cX9_count 52 = .ok (.getfield 109, 3) := by decide +kernel
theorem dX9_count_55 : decode cX9_count 55 = .ok (.ireturn, 1) := by decide +kernel
theorem dX9_count_56 : decode cX9_count 56 = .ok (.aload_n 0, 1) := by decide +kernel
theorem dX9_count_57 : decode cX9_count 57 = .ok (.getfield 10, 3) := by decide +kernel
theorem dX9_count_60 : decode cX9_count 60 = .ok (.getfield 87, 3) := by decide +kernel
theorem dX9_count_63 : decode cX9_count 63 = .ok (.ireturn, 1) := by decide +kernel
theorem dX9_count_64 : decode cX9_count 64 = .ok (.aload_n 0, 1) := by decide +kernel
theorem dX9_count_65 : decode cX9_count 65 = .ok (.getfield 10, 3) := by decide +kernel
theorem dX9_count_68 : decode cX9_count 68 = .ok (.getfield 135, 3) := by decide +kernel
theorem dX9_count_71 : decode cX9_count 71 = .ok (.ireturn, 1) := by decide +kernel
theorem dX9_count_72 : decode cX9_count 72 = .ok (.aload_n 0, 1) := by decide +kernel
theorem dX9_count_73 : decode cX9_count 73 = .ok (.getfield 10, 3) := by decide +kernel
theorem dX9_count_76 : decode cX9_count 76 = .ok (.getfield 120, 3) := by decide +kernel
theorem dX9_count_79 : decode cX9_count 79 = .ok (.ireturn, 1) := by decide +kernel
theorem dX9_count_80 : decode cX9_count 80 = .ok (.aload_n 0, 1) := by decide +kernel
theorem dX9_count_81 : decode cX9_count 81 = .ok (.getfield 10, 3) := by decide +kernel
theorem dX9_count_84 : decode cX9_count 84 = .ok (.getfield 295, 3) := by decide +kernel
theorem dX9_count_87 : decode cX9_count 87 = .ok (.ireturn, 1) := by decide +kernel
theorem dX9_count_88 : decode cX9_count 88 = .ok (.aload_n 0, 1) := by decide +kernel
theorem dX9_count_89 : decode cX9_count 89 = .ok (.getfield 10, 3) := by decide +kernel
theorem dX9_count_92 : decode cX9_count 92 = .ok (.getfield 180, 3) := by decide +kernel
theorem dX9_count_95 : decode cX9_count 95 = .ok (.ireturn, 1) := by decide +kernel
theorem dX9_count_96 : decode cX9_count 96 = .ok (.aload_n 0, 1) := by decide +kernel
theorem dX9_count_97 : decode cX9_count 97 = .ok (.getfield 10, 3) := by decide +kernel
theorem dX9_count_100 : decode cX9_count 100 = .ok (.getfield 141, 3) := by decide +kernel
theorem dX9_count_103 : decode cX9_count 103 = .ok (.ireturn, 1) := by decide +kernel
theorem dX9_count_104 : decode cX9_count 104 = .ok (.aload_n 0, 1) := by decide +kernel
theorem dX9_count_105 : decode cX9_count 105 = .ok (.getfield 10, 3) := by decide +kernel
theorem dX9_count_108 : decode cX9_count 108 = .ok (.getfield 297, 3) := by decide +kernel
theorem dX9_count_111 : decode cX9_count 111 = .ok (.ireturn, 1) := by decide +kernel
theorem dX9_count_112 : decode cX9_count 112 = .ok (.iconst (-1), 1) := by decide +kernel
theorem dX9_count_113 : decode cX9_count 113 = .ok (.ireturn, 1) := by decide +kernel
theorem dX9_keep_0 : decode cX9_keep 0 = .ok (.iload_n 1, 1) := by decide +kernel
theorem dX9_keep_1 : decode cX9_keep 1 = .ok (.invokestatic 228, 3) := by decide +kernel
theorem dX9_keep_4 : decode cX9_keep 4 = .ok (.ifCond .eq 12, 3) := by decide +kernel
theorem dX9_keep_7 : decode cX9_keep 7 = .ok (.iload_n 2, 1) := by decide +kernel
theorem dX9_keep_8 : decode cX9_keep 8 = .ok (.iconst 0, 1) := by decide +kernel
theorem dX9_keep_9 : decode cX9_keep 9 = .ok (.iconst 1, 1) := by decide +kernel
theorem dX9_keep_10 : decode cX9_keep 10 = .ok (.invokestatic 112, 3) := by decide +kernel
theorem dX9_keep_13 : decode cX9_keep 13 = .ok (.ifCond .ne 5, 3) := by decide +kernel
theorem dX9_keep_16 : decode cX9_keep 16 = .ok (.iconst (-1), 1) := by decide +kernel
theorem dX9_keep_17 : decode cX9_keep 17 = .ok (.ireturn, 1) := by decide +kernel
theorem dX9_keep_18 : decode cX9_keep 18 = .ok (.iload_n 2, 1) := by decide +kernel
theorem dX9_keep_19 : decode cX9_keep 19 = .ok (.ifCond .ne 14, 3) := by decide +kernel
theorem dX9_keep_22 : decode cX9_keep 22 = .ok (.aload_n 0, 1) := by decide +kernel
theorem dX9_keep_23 : decode cX9_keep 23 = .ok (.getfield 24, 3) := by decide +kernel
theorem dX9_keep_26 : decode cX9_keep 26 = .ok (.iload_n 1, 1) := by decide +kernel
theorem dX9_keep_27 : decode cX9_keep 27 = .ok (.aaload, 1) := by decide +kernel
theorem dX9_keep_28 : decode cX9_keep 28 = .ok (.invokevirtual 300, 3) := by decide +kernel
theorem dX9_keep_31 : decode cX9_keep 31 = .ok (.iconst 0, 1) := by decide +kernel
theorem dX9_keep_32 : decode cX9_keep 32 = .ok (.ireturn, 1) := by decide +kernel
theorem dX9_keep_33 : decode cX9_keep 33 = .ok (.iload_n 3, 1) := by decide +kernel
theorem dX9_keep_34 : decode cX9_keep 34 = .ok (.iconst 0, 1) := by decide +kernel
theorem dX9_keep_35 : decode cX9_keep 35 = .ok (.bipush 7, 2) := by decide +kernel
theorem dX9_keep_37 : decode cX9_keep 37 = .ok (.invokestatic 112, 3) := by decide +kernel
theorem dX9_keep_40 : decode cX9_keep 40 = .ok (.ifCond .eq 14, 3) := by decide +kernel
theorem dX9_keep_43 : decode cX9_keep 43 = .ok (.iload 4, 2) := by decide +kernel
theorem dX9_keep_45 : decode cX9_keep 45 = .ok (.iconst 0, 1) := by decide +kernel
theorem dX9_keep_46 : decode cX9_keep 46 = .ok (.bipush 9, 2) := by decide +kernel
theorem dX9_keep_48 : decode cX9_keep 48 = .ok (.invokestatic 112, 3) := by decide +kernel
theorem dX9_keep_51 : decode cX9_keep 51 = .ok (.ifCond .ne 5, 3) := by decide +kernel
theorem dX9_keep_54 : decode cX9_keep 54 = .ok (.iconst (-1), 1) := by decide +kernel
theorem dX9_keep_55 : decode cX9_keep 55 = .ok (.ireturn, 1) := by decide +kernel
theorem dX9_keep_56 : decode cX9_keep 56 = .ok (.aload_n 0, 1) := by decide +kernel
theorem dX9_keep_57 : decode cX9_keep 57 = .ok (.getfield 24, 3) := by decide +kernel
theorem dX9_keep_60 : decode cX9_keep 60 = .ok (.iload_n 1, 1) := by decide +kernel
theorem dX9_keep_61 : decode cX9_keep 61 = .ok (.aaload, 1) := by decide +kernel
theorem dX9_keep_62 : decode cX9_keep 62 = .ok (.iload_n 3, 1) := by decide +kernel
theorem dX9_keep_63 : decode cX9_keep 63 = .ok (.iload 4, 2) := by decide +kernel
theorem dX9_keep_65 : decode cX9_keep 65 = .ok (.invokevirtual 303, 3) := by decide +kernel
theorem dX9_keep_68 : decode cX9_keep 68 = .ok (.iconst 0, 1) := by decide +kernel
theorem dX9_keep_69 : decode cX9_keep 69 = .ok (.ireturn, 1) := by decide +kernel
theorem dX9_row_0 : decode cX9_row 0 = .ok (.iload_n 1, 1) := by decide +kernel
theorem dX9_row_1 : decode cX9_row 1 = .ok (.invokestatic 228, 3) := by decide +kernel
theorem dX9_row_4 : decode cX9_row 4 = .ok (.ifCond .eq 18, 3) := by decide +kernel
theorem dX9_row_7 : decode cX9_row 7 = .ok (.iload_n 2, 1) := by decide +kernel
theorem dX9_row_8 : decode cX9_row 8 = .ok (.iconst 0, 1) := by decide +kernel
theorem dX9_row_9 : decode cX9_row 9 = .ok (.iconst 2, 1) := by decide +kernel
theorem dX9_row_10 : decode cX9_row 10 = .ok (.invokestatic 112, 3) := by decide +kernel
theorem dX9_row_13 : decode cX9_row 13 = .ok (.ifCond .eq 9, 3) := by decide +kernel
theorem dX9_row_16 : decode cX9_row 16 = .ok (.iload_n 3, 1) := by decide +kernel
theorem dX9_row_17 : decode cX9_row 17 = .ok (.bipush 100, 2) := by decide +kernel
theorem dX9_row_19 : decode cX9_row 19 = .ok (.if_icmp .le 5, 3) := by decide +kernel
theorem dX9_row_22 : decode cX9_row 22 = .ok (.iconst (-1), 1) := by decide +kernel
theorem dX9_row_23 : decode cX9_row 23 = .ok (.ireturn, 1) := by decide +kernel
theorem dX9_row_24 : decode cX9_row 24 = .ok (.iload_n 3, 1) := by decide +kernel
theorem dX9_row_25 : decode cX9_row 25 = .ok (.ifCond .ge 6, 3) := by decide +kernel
theorem dX9_row_28 : decode cX9_row 28 = .ok (.bipush (-14), 2) := by decide +kernel
theorem dX9_row_30 : decode cX9_row 30 = .ok (.ireturn, 1) := by decide +kernel
theorem dX9_row_31 : decode cX9_row 31 = .ok (.aload_n 0, 1) := by decide +kernel
theorem dX9_row_32 : decode cX9_row 32 = .ok (.getfield 24, 3) := by decide +kernel
theorem dX9_row_35 : decode cX9_row 35 = .ok (.iload_n 1, 1) := by decide +kernel
theorem dX9_row_36 : decode cX9_row 36 = .ok (.aaload, 1) := by decide +kernel
theorem dX9_row_37 : decode cX9_row 37 = .ok (.iload_n 2, 1) := by decide +kernel
theorem dX9_row_38 : decode cX9_row 38 = .ok (.iload_n 3, 1) := by decide +kernel
theorem dX9_row_39 : decode cX9_row 39 = .ok (.invokevirtual 306, 3) := by decide +kernel
theorem dX9_row_42 : decode cX9_row 42 = .ok (.iconst 0, 1) := by decide +kernel
theorem dX9_row_43 : decode cX9_row 43 = .ok (.ireturn, 1) := by decide +kernel
theorem dX9_put_0 : decode cX9_put 0 = .ok (.aload_n 0, 1) := by decide +kernel
theorem dX9_put_1 : decode cX9_put 1 = .ok (.iload_n 1, 1) := by decide +kernel
theorem dX9_put_2 : decode cX9_put 2 = .ok (.invokevirtual 36, 3) := by decide +kernel
theorem dX9_put_5 : decode cX9_put 5 = .ok (.istore 4, 2) := by decide +kernel
theorem dX9_put_7 : decode cX9_put 7 = .ok (.iload 4, 2) := by decide +kernel
theorem dX9_put_9 : decode cX9_put 9 = .ok (.ifCond .eq 6, 3) := by decide +kernel
theorem dX9_put_12 : decode cX9_put 12 = .ok (.iload 4, 2) := by decide +kernel
theorem dX9_put_14 : decode cX9_put 14 = .ok (.ireturn, 1) := by decide +kernel
theorem dX9_put_15 : decode cX9_put 15 = .ok (.aload_n 0, 1) := by decide +kernel
theorem dX9_put_16 : decode cX9_put 16 = .ok (.getfield 24, 3) := by decide +kernel
theorem dX9_put_19 : decode cX9_put 19 = .ok (.iload_n 1, 1) := by decide +kernel
theorem dX9_put_20 : decode cX9_put 20 = .ok (.aaload, 1) := by decide +kernel
theorem dX9_put_21 : decode cX9_put 21 = .ok (.iload_n 2, 1) := by decide +kernel
theorem dX9_put_22 : decode cX9_put 22 = .ok (.invokevirtual 309, 3) := by decide +kernel
theorem dX9_put_25 : decode cX9_put 25 = .ok (.ifCond .ne 6, 3) := by decide +kernel
theorem dX9_put_28 : decode cX9_put 28 = .ok (.bipush (-13), 2) := by decide +kernel
theorem dX9_put_30 : decode cX9_put 30 = .ok (.ireturn, 1) := by decide +kernel
theorem dX9_put_31 : decode cX9_put 31 = .ok (.aload_n 0, 1) := by decide +kernel
theorem dX9_put_32 : decode cX9_put 32 = .ok (.getfield 24, 3) := by decide +kernel
theorem dX9_put_35 : decode cX9_put 35 = .ok (.iload_n 1, 1) := by decide +kernel
theorem dX9_put_36 : decode cX9_put 36 = .ok (.aaload, 1) := by decide +kernel
theorem dX9_put_37 : decode cX9_put 37 = .ok (.iload_n 2, 1) := by decide +kernel
theorem dX9_put_38 : decode cX9_put 38 = .ok (.iload_n 3, 1) := by decide +kernel
theorem dX9_put_39 : decode cX9_put 39 = .ok (.invokevirtual 312, 3) := by decide +kernel
theorem dX9_put_42 : decode cX9_put 42 = .ok (.iconst 0, 1) := by decide +kernel
theorem dX9_put_43 : decode cX9_put 43 = .ok (.ireturn, 1) := by decide +kernel
theorem dX9_element_0 : decode cX9_element 0 = .ok (.iload_n 1, 1) := by decide +kernel
theorem dX9_element_1 : decode cX9_element 1 = .ok (.invokestatic 228, 3) := by decide +kernel
theorem dX9_element_4 : decode cX9_element 4 = .ok (.ifCond .ne 14, 3) := by decide +kernel
theorem dX9_element_7 : decode cX9_element 7 = .ok (.new 315, 3) := by decide +kernel
theorem dX9_element_10 : decode cX9_element 10 = .ok (.dup, 1) := by decide +kernel
theorem dX9_element_11 : decode cX9_element 11 = .ok (.ldc_w 317, 3) := by decide +kernel
theorem dX9_element_14 : decode cX9_element 14 = .ok (.invokespecial 319, 3) := by decide +kernel
theorem dX9_element_17 : decode cX9_element 17 = .ok (.athrow, 1) := by decide +kernel
theorem dX9_element_18 : decode cX9_element 18 = .ok (.aload_n 0, 1) := by decide +kernel
theorem dX9_element_19 : decode cX9_element 19 = .ok (.iload_n 1, 1) := by decide +kernel
theorem dX9_element_20 : decode cX9_element 20 = .ok (.invokevirtual 36, 3) := by decide +kernel
theorem dX9_element_23 : decode cX9_element 23 = .ok (.ifCond .eq 14, 3) := by decide +kernel
theorem dX9_element_26 : decode cX9_element 26 = .ok (.new 322, 3) := by decide +kernel
theorem dX9_element_29 : decode cX9_element 29 = .ok (.dup, 1) := by decide +kernel
theorem dX9_element_30 : decode cX9_element 30 = .ok (.ldc_w 324, 3) := by decide +kernel
theorem dX9_element_33 : decode cX9_element 33 = .ok (.invokespecial 326, 3) := by decide +kernel
theorem dX9_element_36 : decode cX9_element 36 = .ok (.athrow, 1) := by decide +kernel
theorem dX9_element_37 : decode cX9_element 37 = .ok (.aload_n 0, 1) := by decide +kernel
theorem dX9_element_38 : decode cX9_element 38 = .ok (.getfield 24, 3) := by decide +kernel
theorem dX9_element_41 : decode cX9_element 41 = .ok (.iload_n 1, 1) := by decide +kernel
theorem dX9_element_42 : decode cX9_element 42 = .ok (.aaload, 1) := by decide +kernel
theorem dX9_element_43 : decode cX9_element 43 = .ok (.iload_n 2, 1) := by decide +kernel
theorem dX9_element_44 : decode cX9_element 44 = .ok (.invokevirtual 309, 3) := by decide +kernel
theorem dX9_element_47 : decode cX9_element 47 = .ok (.ifCond .ne 14, 3) := by decide +kernel
theorem dX9_element_50 : decode cX9_element 50 = .ok (.new 322, 3) := by decide +kernel
theorem dX9_element_53 : decode cX9_element 53 = .ok (.dup, 1) := by decide +kernel
theorem dX9_element_54 : decode cX9_element 54 = .ok (.ldc_w 327, 3) := by decide +kernel
theorem dX9_element_57 : decode cX9_element 57 = .ok (.invokespecial 326, 3) := by decide +kernel
theorem dX9_element_60 : decode cX9_element 60 = .ok (.athrow, 1) := by decide +kernel
theorem dX9_element_61 : decode cX9_element 61 = .ok (.aload_n 0, 1) := by decide +kernel
theorem dX9_element_62 : decode cX9_element 62 = .ok (.getfield 24, 3) := by decide +kernel
theorem dX9_element_65 : decode cX9_element 65 = .ok (.iload_n 1, 1) := by decide +kernel
theorem dX9_element_66 : decode cX9_element 66 = .ok (.aaload, 1) := by decide +kernel
theorem dX9_element_67 : decode cX9_element 67 = .ok (.getfield 281, 3) := by decide +kernel
theorem dX9_element_70 : decode cX9_element 70 = .ok (.iload_n 2, 1) := by decide +kernel
theorem dX9_element_71 : decode cX9_element 71 = .ok (.iaload, 1) := by decide +kernel
theorem dX9_element_72 : decode cX9_element 72 = .ok (.i2l, 1) := by decide +kernel
theorem dX9_element_73 : decode cX9_element 73 = .ok (.lreturn, 1) := by decide +kernel
theorem dX9_copy_0 : decode cX9_copy 0 = .ok (.iload_n 1, 1) := by decide +kernel
theorem dX9_copy_1 : decode cX9_copy 1 = .ok (.invokestatic 228, 3) := by decide +kernel
theorem dX9_copy_4 : decode cX9_copy 4 = .ok (.ifCond .eq 10, 3) := by decide +kernel
theorem dX9_copy_7 : decode cX9_copy 7 = .ok (.iload_n 3, 1) := by decide +kernel
theorem dX9_copy_8 : decode cX9_copy 8 = .ok (.invokestatic 228, 3) := by decide +kernel
theorem dX9_copy_11 : decode cX9_copy 11 = .ok (.ifCond .ne 5, 3) := by decide +kernel
theorem dX9_copy_14 : decode cX9_copy 14 = .ok (.iconst (-1), 1) := by decide +kernel
theorem dX9_copy_15 : decode cX9_copy 15 = .ok (.ireturn, 1) := by decide +kernel
theorem dX9_copy_16 : decode cX9_copy 16 = .ok (.aload_n 0, 1) := by decide +kernel
theorem dX9_copy_17 : decode cX9_copy 17 = .ok (.getfield 24, 3) := by decide +kernel
theorem dX9_copy_20 : decode cX9_copy 20 = .ok (.iload_n 1, 1) := by decide +kernel
theorem dX9_copy_21 : decode cX9_copy 21 = .ok (.aaload, 1) := by decide +kernel
theorem dX9_copy_22 : decode cX9_copy 22 = .ok (.astore 6, 2) := by decide +kernel
theorem dX9_copy_24 : decode cX9_copy 24 = .ok (.aload_n 0, 1) := by decide +kernel
theorem dX9_copy_25 : decode cX9_copy 25 = .ok (.getfield 24, 3) := by decide +kernel
theorem dX9_copy_28 : decode cX9_copy 28 = .ok (.iload_n 3, 1) := by decide +kernel
theorem dX9_copy_29 : decode cX9_copy 29 = .ok (.aaload, 1) := by decide +kernel
theorem dX9_copy_30 : decode cX9_copy 30 = .ok (.astore 7, 2) := by decide +kernel
theorem dX9_copy_32 : decode cX9_copy 32 = .ok (.aload 6, 2) := by decide +kernel
theorem dX9_copy_34 : decode cX9_copy 34 = .ok (.getfield 329, 3) := by decide +kernel
theorem dX9_copy_37 : decode cX9_copy 37 = .ok (.ifCond .eq 11, 3) := by decide +kernel
theorem dX9_copy_40 : decode cX9_copy 40 = .ok (.aload 7, 2) := by decide +kernel
theorem dX9_copy_42 : decode cX9_copy 42 = .ok (.getfield 329, 3) := by decide +kernel
theorem dX9_copy_45 : decode cX9_copy 45 = .ok (.ifCond .ne 6, 3) := by decide +kernel
theorem dX9_copy_48 : decode cX9_copy 48 = .ok (.bipush (-11), 2) := by decide +kernel
theorem dX9_copy_50 : decode cX9_copy 50 = .ok (.ireturn, 1) := by decide +kernel
theorem dX9_copy_51 : decode cX9_copy 51 = .ok (.aload 6, 2) := by decide +kernel
theorem dX9_copy_53 : decode cX9_copy 53 = .ok (.getfield 329, 3) := by decide +kernel
theorem dX9_copy_56 : decode cX9_copy 56 = .ok (.iconst 2, 1) := by decide +kernel
theorem dX9_copy_57 : decode cX9_copy 57 = .ok (.if_icmp .ne 25, 3) := by decide +kernel
theorem dX9_copy_60 : decode cX9_copy 60 = .ok (.aload 7, 2) := by decide +kernel
theorem dX9_copy_62 : decode cX9_copy 62 = .ok (.getfield 329, 3) := by decide +kernel
theorem dX9_copy_65 : decode cX9_copy 65 = .ok (.iconst 2, 1) := by decide +kernel
theorem dX9_copy_66 : decode cX9_copy 66 = .ok (.if_icmp .ne 16, 3) := by decide +kernel
theorem dX9_copy_69 : decode cX9_copy 69 = .ok (.aload 6, 2) := by decide +kernel
theorem dX9_copy_71 : decode cX9_copy 71 = .ok (.getfield 40, 3) := by decide +kernel
theorem dX9_copy_74 : decode cX9_copy 74 = .ok (.aload 7, 2) := by decide +kernel
theorem dX9_copy_76 : decode cX9_copy 76 = .ok (.getfield 40, 3) := by decide +kernel
theorem dX9_copy_79 : decode cX9_copy 79 = .ok (.if_icmp .eq 6, 3) := by decide +kernel
theorem dX9_copy_82 : decode cX9_copy 82 = .ok (.bipush (-12), 2) := by decide +kernel
theorem dX9_copy_84 : decode cX9_copy 84 = .ok (.ireturn, 1) := by decide +kernel
theorem dX9_copy_85 : decode cX9_copy 85 = .ok (.aload 6, 2) := by decide +kernel
theorem dX9_copy_87 : decode cX9_copy 87 = .ok (.iload_n 2, 1) := by decide +kernel
theorem dX9_copy_88 : decode cX9_copy 88 = .ok (.iload 5, 2) := by decide +kernel
theorem dX9_copy_90 : decode cX9_copy 90 = .ok (.invokevirtual 332, 3) := by decide +kernel
theorem dX9_copy_93 : decode cX9_copy 93 = .ok (.ifCond .eq 15, 3) := by decide +kernel
theorem dX9_copy_96 : decode cX9_copy 96 = .ok (.aload 7, 2) := by decide +kernel
theorem dX9_copy_98 : decode cX9_copy 98 = .ok (.iload 4, 2) := by decide +kernel
theorem dX9_copy_100 : decode cX9_copy 100 = .ok (.iload 5, 2) := by decide +kernel
theorem dX9_copy_102 : decode cX9_copy 102 = .ok (.invokevirtual 332, 3) := by decide +kernel
theorem dX9_copy_105 : decode cX9_copy 105 = .ok (.ifCond .ne 6, 3) := by decide +kernel
theorem dX9_copy_108 : decode cX9_copy 108 = .ok (.bipush (-13), 2) := by decide +kernel
theorem dX9_copy_110 : decode cX9_copy 110 = .ok (.ireturn, 1) := by decide +kernel
theorem dX9_copy_111 : decode cX9_copy 111 = .ok (.aload 6, 2) := by decide +kernel
theorem dX9_copy_113 : decode cX9_copy 113 = .ok (.getfield 281, 3) := by decide +kernel
theorem dX9_copy_116 : decode cX9_copy 116 = .ok (.iload_n 2, 1) := by decide +kernel
theorem dX9_copy_117 : decode cX9_copy 117 = .ok (.aload 7, 2) := by decide +kernel
theorem dX9_copy_119 : decode cX9_copy 119 = .ok (.getfield 281, 3) := by decide +kernel
theorem dX9_copy_122 : decode cX9_copy 122 = .ok (.iload 4, 2) := by decide +kernel
theorem dX9_copy_124 : decode cX9_copy 124 = .ok (.iload 5, 2) := by decide +kernel
theorem dX9_copy_126 : decode cX9_copy 126 = .ok (.invokestatic 335, 3) := by decide +kernel
theorem dX9_copy_129 : decode cX9_copy 129 = .ok (.iload 5, 2) := by decide +kernel
theorem dX9_copy_131 : decode cX9_copy 131 = .ok (.ireturn, 1) := by decide +kernel
theorem dX9_cost_0 : decode cX9_cost 0 = .ok (.aload_n 0, 1) := by decide +kernel
theorem dX9_cost_1 : decode cX9_cost 1 = .ok (.iload_n 1, 1) := by decide +kernel
theorem dX9_cost_2 : decode cX9_cost 2 = .ok (.invokevirtual 94, 3) := by decide +kernel
theorem dX9_cost_5 : decode cX9_cost 5 = .ok (.istore_n 2, 1) := by decide +kernel
theorem dX9_cost_6 : decode cX9_cost 6 = .ok (.iload_n 2, 1) := by decide +kernel
theorem dX9_cost_7 : decode cX9_cost 7 = .ok (.ifCond .eq 5, 3) := by decide +kernel
theorem dX9_cost_10 : decode cX9_cost 10 = .ok (.iload_n 2, 1) := by decide +kernel
theorem dX9_cost_11 : decode cX9_cost 11 = .ok (.ireturn, 1) := by decide +kernel
theorem dX9_cost_12 : decode cX9_cost 12 = .ok (.aload_n 0, 1) := by decide +kernel
theorem dX9_cost_13 : decode cX9_cost 13 = .ok (.getfield 24, 3) := by decide +kernel
theorem dX9_cost_16 : decode cX9_cost 16 = .ok (.iload_n 1, 1) := by decide +kernel
theorem dX9_cost_17 : decode cX9_cost 17 = .ok (.aaload, 1) := by decide +kernel
theorem dX9_cost_18 : decode cX9_cost 18 = .ok (.getfield 101, 3) := by decide +kernel
theorem dX9_cost_21 : decode cX9_cost 21 = .ok (.aload_n 0, 1) := by decide +kernel
theorem dX9_cost_22 : decode cX9_cost 22 = .ok (.getfield 24, 3) := by decide +kernel
theorem dX9_cost_25 : decode cX9_cost 25 = .ok (.iload_n 1, 1) := by decide +kernel
theorem dX9_cost_26 : decode cX9_cost 26 = .ok (.aaload, 1) := by decide +kernel
theorem dX9_cost_27 : decode cX9_cost 27 = .ok (.getfield 103, 3) := by decide +kernel
theorem dX9_cost_30 : decode cX9_cost 30 = .ok (.invokestatic 341, 3) := by decide +kernel
theorem dX9_cost_33 : decode cX9_cost 33 = .ok (.ireturn, 1) := by decide +kernel
theorem dX9_toss_0 : decode cX9_toss 0 = .ok (.aload_n 0, 1) := by decide +kernel
theorem dX9_toss_1 : decode cX9_toss 1 = .ok (.iload_n 1, 1) := by decide +kernel
theorem dX9_toss_2 : decode cX9_toss 2 = .ok (.invokevirtual 94, 3) := by decide +kernel
theorem dX9_toss_5 : decode cX9_toss 5 = .ok (.istore_n 2, 1) := by decide +kernel
theorem dX9_toss_6 : decode cX9_toss 6 = .ok (.iload_n 2, 1) := by decide +kernel
theorem dX9_toss_7 : decode cX9_toss 7 = .ok (.ifCond .eq 5, 3) := by decide +kernel
theorem dX9_toss_10 : decode cX9_toss 10 = .ok (.iload_n 2, 1) := by decide +kernel
theorem dX9_toss_11 : decode cX9_toss 11 = .ok (.ireturn, 1) := by decide +kernel
theorem dX9_toss_12 : decode cX9_toss 12 = .ok (.aload_n 0, 1) := by decide +kernel
theorem dX9_toss_13 : decode cX9_toss 13 = .ok (.getfield 24, 3) := by decide +kernel
theorem dX9_toss_16 : decode cX9_toss 16 = .ok (.iload_n 1, 1) := by decide +kernel
theorem dX9_toss_17 : decode cX9_toss 17 = .ok (.aaload, 1) := by decide +kernel
theorem dX9_toss_18 : decode cX9_toss 18 = .ok (.getfield 101, 3) := by decide +kernel
theorem dX9_toss_21 : decode cX9_toss 21 = .ok (.aload_n 0, 1) := by decide +kernel
theorem dX9_toss_22 : decode cX9_toss 22 = .ok (.getfield 24, 3) := by decide +kernel
theorem dX9_toss_25 : decode cX9_toss 25 = .ok (.iload_n 1, 1) := by decide +kernel
theorem dX9_toss_26 : decode cX9_toss 26 = .ok (.aaload, 1) := by decide +kernel
theorem dX9_toss_27 : decode cX9_toss 27 = .ok (.getfield 103, 3) := by decide +kernel
theorem dX9_toss_30 : decode cX9_toss 30 = .ok (.invokestatic 344, 3) := by decide +kernel
theorem dX9_toss_33 : decode cX9_toss 33 = .ok (.ireturn, 1) := by decide +kernel
theorem dX9_within_0 : decode cX9_within 0 = .ok (.iload_n 0, 1) := by decide +kernel
theorem dX9_within_1 : decode cX9_within 1 = .ok (.iload_n 1, 1) := by decide +kernel
theorem dX9_within_2 : decode cX9_within 2 = .ok (.if_icmp .lt 12, 3) := by decide +kernel
theorem dX9_within_5 : decode cX9_within 5 = .ok (.iload_n 0, 1) := by decide +kernel
theorem dX9_within_6 : decode cX9_within 6 = .ok (.iload_n 2, 1) := by decide +kernel
theorem dX9_within_7 : decode cX9_within 7 = .ok (.if_icmp .gt 7, 3) := by decide +kernel
theorem dX9_within_10 : decode cX9_within 10 = .ok (.iconst 1, 1) := by decide +kernel
theorem dX9_within_11 : decode cX9_within 11 = .ok (.goto 4, 3) := by decide +kernel
theorem dX9_within_14 : decode cX9_within 14 = .ok (.iconst 0, 1) := by decide +kernel
theorem dX9_within_15 : decode cX9_within 15 = .ok (.ireturn, 1) := by decide +kernel
theorem dX9_isPart_0 : decode cX9_isPart 0 = .ok (.iload_n 0, 1) := by decide +kernel
theorem dX9_isPart_1 : decode cX9_isPart 1 = .ok (.iconst 0, 1) := by decide +kernel
theorem dX9_isPart_2 : decode cX9_isPart 2 = .ok (.iconst 1, 1) := by decide +kernel
theorem dX9_isPart_3 : decode cX9_isPart 3 = .ok (.invokestatic 112, 3) := by decide +kernel
theorem dX9_isPart_6 : decode cX9_isPart 6 = .ok (.ireturn, 1) := by decide +kernel
theorem dX9_isShelf_0 : decode cX9_isShelf 0 = .ok (.iload_n 0, 1) := by decide +kernel
theorem dX9_isShelf_1 : decode cX9_isShelf 1 = .ok (.iconst 0, 1) := by decide +kernel
theorem dX9_isShelf_2 : decode cX9_isShelf 2 = .ok (.bipush 7, 2) := by decide +kernel
theorem dX9_isShelf_4 : decode cX9_isShelf 4 = .ok (.invokestatic 112, 3) := by decide +kernel
theorem dX9_isShelf_7 : decode cX9_isShelf 7 = .ok (.ireturn, 1) := by decide +kernel
theorem dX9_bit_0 : decode cX9_bit 0 = .ok (.iload_n 0, 1) := by decide +kernel
theorem dX9_bit_1 : decode cX9_bit 1 = .ok (.ifCond .eq 7, 3) := by decide +kernel
theorem dX9_bit_4 : decode cX9_bit 4 = .ok (.iconst 1, 1) := by decide +kernel
theorem dX9_bit_5 : decode cX9_bit 5 = .ok (.goto 4, 3) := by decide +kernel
theorem dX9_bit_8 : decode cX9_bit 8 = .ok (.iconst 0, 1) := by decide +kernel
theorem dX9_bit_9 : decode cX9_bit 9 = .ok (.ireturn, 1) := by decide +kernel
theorem dX9_longRefusal_0 : decode cX9_longRefusal 0 = .ok (.ldc2_w 347, 3) := by decide +kernel
theorem dX9_longRefusal_3 : decode cX9_longRefusal 3 = .ok (.iload_n 0, 1) := by decide +kernel
theorem dX9_longRefusal_4 : decode cX9_longRefusal 4 = .ok (.i2l, 1) := by decide +kernel
theorem dX9_longRefusal_5 : decode cX9_longRefusal 5 = .ok (.lsub, 1) := by decide +kernel
theorem dX9_longRefusal_6 : decode cX9_longRefusal 6 = .ok (.lreturn, 1) := by decide +kernel
theorem dX9_rowRefusal_0 : decode cX9_rowRefusal 0 = .ok (.iload_n 1, 1) := by decide +kernel
theorem dX9_rowRefusal_1 : decode cX9_rowRefusal 1 = .ok (.invokestatic 228, 3) := by decide +kernel
theorem dX9_rowRefusal_4 : decode cX9_rowRefusal 4 = .ok (.ifCond .ne 5, 3) := by decide +kernel
theorem dX9_rowRefusal_7 : decode cX9_rowRefusal 7 = .ok (.iconst (-1), 1) := by decide +kernel
theorem dX9_rowRefusal_8 : decode cX9_rowRefusal 8 = .ok (.ireturn, 1) := by decide +kernel
theorem dX9_rowRefusal_9 : decode cX9_rowRefusal 9 = .ok (.aload_n 0, 1) := by decide +kernel
theorem dX9_rowRefusal_10 : decode cX9_rowRefusal 10 = .ok (.getfield 24, 3) := by decide +kernel
theorem dX9_rowRefusal_13 : decode cX9_rowRefusal 13 = .ok (.iload_n 1, 1) := by decide +kernel
theorem dX9_rowRefusal_14 : decode cX9_rowRefusal 14 = .ok (.aaload, 1) := by decide +kernel
theorem dX9_rowRefusal_15 : decode cX9_rowRefusal 15 = .ok (.getfield 329, 3) := by decide +kernel
theorem dX9_rowRefusal_18 : decode cX9_rowRefusal 18 = .ok (.ifCond .ne 6, 3) := by decide +kernel
theorem dX9_rowRefusal_21 : decode cX9_rowRefusal 21 = .ok (.bipush (-11), 2) := by decide +kernel
theorem dX9_rowRefusal_23 : decode cX9_rowRefusal 23 = .ok (.ireturn, 1) := by decide +kernel
theorem dX9_rowRefusal_24 : decode cX9_rowRefusal 24 = .ok (.aload_n 0, 1) := by decide +kernel
theorem dX9_rowRefusal_25 : decode cX9_rowRefusal 25 = .ok (.getfield 24, 3) := by decide +kernel
theorem dX9_rowRefusal_28 : decode cX9_rowRefusal 28 = .ok (.iload_n 1, 1) := by decide +kernel
theorem dX9_rowRefusal_29 : decode cX9_rowRefusal 29 = .ok (.aaload, 1) := by decide +kernel
theorem dX9_rowRefusal_30 : decode cX9_rowRefusal 30 = .ok (.getfield 329, 3) := by decide +kernel
theorem dX9_rowRefusal_33 : decode cX9_rowRefusal 33 = .ok (.iconst 2, 1) := by decide +kernel
theorem dX9_rowRefusal_34 : decode cX9_rowRefusal 34 = .ok (.if_icmp .ne 7, 3) := by decide +kernel
theorem dX9_rowRefusal_37 : decode cX9_rowRefusal 37 = .ok (.iconst 0, 1) := by decide +kernel
theorem dX9_rowRefusal_38 : decode cX9_rowRefusal 38 = .ok (.goto 5, 3) := by decide +kernel
theorem dX9_rowRefusal_41 : decode cX9_rowRefusal 41 = .ok (.bipush (-12), 2) := by decide +kernel
theorem dX9_rowRefusal_43 : decode cX9_rowRefusal 43 = .ok (.ireturn, 1) := by decide +kernel
theorem dX9_bulbRefusal_0 : decode cX9_bulbRefusal 0 = .ok (.iload_n 1, 1) := by decide +kernel
theorem dX9_bulbRefusal_1 : decode cX9_bulbRefusal 1 = .ok (.invokestatic 228, 3) := by decide +kernel
theorem dX9_bulbRefusal_4 : decode cX9_bulbRefusal 4 = .ok (.ifCond .ne 5, 3) := by decide +kernel
theorem dX9_bulbRefusal_7 : decode cX9_bulbRefusal 7 = .ok (.iconst (-1), 1) := by decide +kernel
theorem dX9_bulbRefusal_8 : decode cX9_bulbRefusal 8 = .ok (.ireturn, 1) := by decide +kernel
theorem dX9_bulbRefusal_9 : decode cX9_bulbRefusal 9 = .ok (.aload_n 0, 1) := by decide +kernel
theorem dX9_bulbRefusal_10 : decode cX9_bulbRefusal 10 = .ok (.getfield 24, 3) := by decide +kernel
theorem dX9_bulbRefusal_13 : decode cX9_bulbRefusal 13 = .ok (.iload_n 1, 1) := by decide +kernel
theorem dX9_bulbRefusal_14 : decode cX9_bulbRefusal 14 = .ok (.aaload, 1) := by decide +kernel
theorem dX9_bulbRefusal_15 : decode cX9_bulbRefusal 15 = .ok (.getfield 329, 3) := by decide +kernel
theorem dX9_bulbRefusal_18 : decode cX9_bulbRefusal 18 = .ok (.ifCond .ne 6, 3) := by decide +kernel
theorem dX9_bulbRefusal_21 : decode cX9_bulbRefusal 21 = .ok (.bipush (-11), 2) := by decide +kernel
theorem dX9_bulbRefusal_23 : decode cX9_bulbRefusal 23 = .ok (.ireturn, 1) := by decide +kernel
theorem dX9_bulbRefusal_24 : decode cX9_bulbRefusal 24 = .ok (.aload_n 0, 1) := by decide +kernel
theorem dX9_bulbRefusal_25 : decode cX9_bulbRefusal 25 = .ok (.getfield 24, 3) := by decide +kernel
theorem dX9_bulbRefusal_28 : decode cX9_bulbRefusal 28 = .ok (.iload_n 1, 1) := by decide +kernel
theorem dX9_bulbRefusal_29 : decode cX9_bulbRefusal 29 = .ok (.aaload, 1) := by decide +kernel
theorem dX9_bulbRefusal_30 : decode cX9_bulbRefusal 30 = .ok (.getfield 329, 3) := by decide +kernel
theorem dX9_bulbRefusal_33 : decode cX9_bulbRefusal 33 = .ok (.iconst 1, 1) := by decide +kernel
theorem dX9_bulbRefusal_34 : decode cX9_bulbRefusal 34 = .ok (.if_icmp .ne 7, 3) := by decide +kernel
theorem dX9_bulbRefusal_37 : decode cX9_bulbRefusal 37 = .ok (.iconst 0, 1) := by decide +kernel
theorem dX9_bulbRefusal_38 : decode cX9_bulbRefusal 38 = .ok (.goto 5, 3) := by decide +kernel
theorem dX9_bulbRefusal_41 : decode cX9_bulbRefusal 41 = .ok (.bipush (-12), 2) := by decide +kernel
theorem dX9_bulbRefusal_43 : decode cX9_bulbRefusal 43 = .ok (.ireturn, 1) := by decide +kernel
theorem dX9_lightOfCut_0 : decode cX9_lightOfCut 0 = .ok (.aload_n 0, 1) := by decide +kernel
theorem dX9_lightOfCut_1 : decode cX9_lightOfCut 1 = .ok (.getfield 16, 3) := by decide +kernel
theorem dX9_lightOfCut_4 : decode cX9_lightOfCut 4 = .ok (.aload_n 0, 1) := by decide +kernel
theorem dX9_lightOfCut_5 : decode cX9_lightOfCut 5 = .ok (.getfield 10, 3) := by decide +kernel
theorem dX9_lightOfCut_8 : decode cX9_lightOfCut 8 = .ok (.invokevirtual 44, 3) := by decide +kernel
theorem dX9_lightOfCut_11 : decode cX9_lightOfCut 11 = .ok (.iconst 0, 1) := by decide +kernel
theorem dX9_lightOfCut_12 : decode cX9_lightOfCut 12 = .ok (.istore_n 3, 1) := by decide +kernel
theorem dX9_lightOfCut_13 : decode cX9_lightOfCut 13 = .ok (.iconst 0, 1) := by decide +kernel
theorem dX9_lightOfCut_14 : decode cX9_lightOfCut 14 = .ok (.istore 4, 2) := by decide +kernel
theorem dX9_lightOfCut_16 : decode cX9_lightOfCut 16 = .ok (.iload 4, 2) := by decide +kernel
theorem dX9_lightOfCut_18 : decode cX9_lightOfCut 18 = .ok (.iload_n 2, 1) := by decide +kernel
theorem dX9_lightOfCut_19 : decode cX9_lightOfCut 19 = .ok (.if_icmp .ge 20, 3) := by decide +kernel
theorem dX9_lightOfCut_22 : decode cX9_lightOfCut 22 = .ok (.iload_n 3, 1) := by decide +kernel
theorem dX9_lightOfCut_23 : decode cX9_lightOfCut 23 = .ok (.aload_n 0, 1) := by decide +kernel
theorem dX9_lightOfCut_24 : decode cX9_lightOfCut 24 = .ok (.getfield 16, 3) := by decide +kernel
theorem dX9_lightOfCut_27 : decode cX9_lightOfCut 27 = .ok (.iload_n 1, 1) := by decide +kernel
theorem dX9_lightOfCut_28 : decode cX9_lightOfCut 28 = .ok (.invokevirtual 349, 3) := by decide +kernel
theorem dX9_lightOfCut_31 : decode cX9_lightOfCut 31 = .ok (.iadd, 1) := by decide +kernel
theorem dX9_lightOfCut_32 : decode cX9_lightOfCut 32 = .ok (.istore_n 3, 1) := by decide +kernel
theorem dX9_lightOfCut_33 : decode cX9_lightOfCut 33 = .ok (.iinc 4 1, 3) := by decide +kernel
theorem dX9_lightOfCut_36 : decode cX9_lightOfCut 36 = .ok (.goto (-20), 3) := by decide +kernel
theorem dX9_lightOfCut_39 : decode cX9_lightOfCut 39 = .ok (.iload_n 3, 1) := by decide +kernel
theorem dX9_lightOfCut_40 : decode cX9_lightOfCut 40 = .ok (.ireturn, 1) := by decide +kernel
theorem dX9_sortsByRow_0 : decode cX9_sortsByRow 0 = .ok (.iconst 0, 1) := by decide +kernel
theorem dX9_sortsByRow_1 : decode cX9_sortsByRow 1 = .ok (.istore_n 3, 1) := by decide +kernel
theorem dX9_sortsByRow_2 : decode cX9_sortsByRow 2 = .ok (.iconst 0, 1) := by decide +kernel
theorem dX9_sortsByRow_3 : decode cX9_sortsByRow 3 = .ok (.istore 4, 2) := by decide +kernel
theorem dX9_sortsByRow_5 : decode cX9_sortsByRow 5 = .ok (.iload 4, 2) := by decide +kernel
theorem dX9_sortsByRow_7 : decode cX9_sortsByRow 7 = .ok (.bipush 7, 2) := by decide +kernel
theorem dX9_sortsByRow_9 : decode cX9_sortsByRow 9 = .ok (.if_icmp .gt 51, 3) := by decide +kernel
theorem dX9_sortsByRow_12 : decode cX9_sortsByRow 12 = .ok (.aload_n 0, 1) := by decide +kernel
theorem dX9_sortsByRow_13 : decode cX9_sortsByRow 13 = .ok (.getfield 16, 3) := by decide +kernel
theorem dX9_sortsByRow_16 : decode cX9_sortsByRow 16 = .ok (.aload_n 0, 1) := by decide +kernel
theorem dX9_sortsByRow_17 : decode cX9_sortsByRow 17 = .ok (.getfield 10, 3) := by decide +kernel
theorem dX9_sortsByRow_20 : decode cX9_sortsByRow 20 = .ok (.invokevirtual 44, 3) := by decide +kernel
theorem dX9_sortsByRow_23 : decode cX9_sortsByRow 23 = .ok (.aload_n 0, 1) := by decide +kernel
theorem dX9_sortsByRow_24 : decode cX9_sortsByRow 24 = .ok (.getfield 16, 3) := by decide +kernel
theorem dX9_sortsByRow_27 : decode cX9_sortsByRow 27 = .ok (.getfield 58, 3) := by decide +kernel
theorem dX9_sortsByRow_30 : decode cX9_sortsByRow 30 = .ok (.iload_n 2, 1) := by decide +kernel
theorem dX9_sortsByRow_31 : decode cX9_sortsByRow 31 = .ok (.iload 4, 2) := by decide +kernel
theorem dX9_sortsByRow_33 : decode cX9_sortsByRow 33 = .ok (.iastore, 1) := by decide +kernel
theorem dX9_sortsByRow_34 : decode cX9_sortsByRow 34 = .ok (.aload_n 0, 1) := by decide +kernel
theorem dX9_sortsByRow_35 : decode cX9_sortsByRow 35 = .ok (.getfield 16, 3) := by decide +kernel
theorem dX9_sortsByRow_38 : decode cX9_sortsByRow 38 = .ok (.iload_n 2, 1) := by decide +kernel
theorem dX9_sortsByRow_39 : decode cX9_sortsByRow 39 = .ok (.aload_n 1, 1) := by decide +kernel
theorem dX9_sortsByRow_40 : decode cX9_sortsByRow 40 = .ok (.iconst 0, 1) := by decide +kernel
theorem dX9_sortsByRow_41 : decode cX9_sortsByRow 41 = .ok (.invokestatic 267, 3) := by decide +kernel
theorem dX9_sortsByRow_44 : decode cX9_sortsByRow 44 = .ok (.ifCond .eq 10, 3) := by decide +kernel
theorem dX9_sortsByRow_47 : decode cX9_sortsByRow 47 = .ok (.iload_n 3, 1) := by decide +kernel
theorem dX9_sortsByRow_48 : decode cX9_sortsByRow 48 = .ok (.iconst 1, 1) := by decide +kernel
theorem dX9_sortsByRow_49 : decode cX9_sortsByRow 49 = .ok (.iload 4, 2) := by decide +kernel
theorem dX9_sortsByRow_51 : decode cX9_sortsByRow 51 = .ok (.ishl, 1) := by decide +kernel
theorem dX9_sortsByRow_52 : decode cX9_sortsByRow 52 = .ok (.ior, 1) := by decide +kernel
theorem dX9_sortsByRow_53 : decode cX9_sortsByRow 53 = .ok (.istore_n 3, 1) := by decide +kernel
theorem dX9_sortsByRow_54 : decode cX9_sortsByRow 54 = .ok (.iinc 4 1, 3) := by decide +kernel
theorem dX9_sortsByRow_57 : decode cX9_sortsByRow 57 = .ok (.goto (-52), 3) := by decide +kernel
theorem dX9_sortsByRow_60 : decode cX9_sortsByRow 60 = .ok (.iload_n 3, 1) := by decide +kernel
theorem dX9_sortsByRow_61 : decode cX9_sortsByRow 61 = .ok (.ireturn, 1) := by decide +kernel
theorem dX9_figuresByRow_0 : decode cX9_figuresByRow 0 = .ok (.iconst 0, 1) := by decide +kernel
theorem dX9_figuresByRow_1 : decode cX9_figuresByRow 1 = .ok (.istore_n 3, 1) := by decide +kernel
theorem dX9_figuresByRow_2 : decode cX9_figuresByRow 2 = .ok (.iconst 0, 1) := by decide +kernel
theorem dX9_figuresByRow_3 : decode cX9_figuresByRow 3 = .ok (.istore 4, 2) := by decide +kernel
theorem dX9_figuresByRow_5 : decode cX9_figuresByRow 5 = .ok (.iload 4, 2) := by decide +kernel
theorem dX9_figuresByRow_7 : decode cX9_figuresByRow 7 = .ok (.bipush 9, 2) := by decide +kernel
theorem dX9_figuresByRow_9 : decode cX9_figuresByRow 9 = .ok (.if_icmp .gt 51, 3) := by decide +kernel
theorem dX9_figuresByRow_12 : decode cX9_figuresByRow 12 = .ok (.aload_n 0, 1) := by decide +kernel
theorem dX9_figuresByRow_13 : decode cX9_figuresByRow 13 = .ok (.getfield 16, 3) := by decide +kernel
theorem dX9_figuresByRow_16 : decode cX9_figuresByRow 16 = .ok (.aload_n 0, 1) := by decide +kernel
theorem dX9_figuresByRow_17 : decode cX9_figuresByRow 17 = .ok (.getfield 10, 3) := by decide +kernel
theorem dX9_figuresByRow_20 : decode cX9_figuresByRow 20 = .ok (.invokevirtual 44, 3) := by decide +kernel
theorem dX9_figuresByRow_23 : decode cX9_figuresByRow 23 = .ok (.aload_n 0, 1) := by decide +kernel
theorem dX9_figuresByRow_24 : decode cX9_figuresByRow 24 = .ok (.getfield 16, 3) := by decide +kernel
theorem dX9_figuresByRow_27 : decode cX9_figuresByRow 27 = .ok (.getfield 62, 3) := by decide +kernel
theorem dX9_figuresByRow_30 : decode cX9_figuresByRow 30 = .ok (.iload_n 2, 1) := by decide +kernel
theorem dX9_figuresByRow_31 : decode cX9_figuresByRow 31 = .ok (.iload 4, 2) := by decide +kernel
theorem dX9_figuresByRow_33 : decode cX9_figuresByRow 33 = .ok (.iastore, 1) := by decide +kernel
theorem dX9_figuresByRow_34 : decode cX9_figuresByRow 34 = .ok (.aload_n 0, 1) := by decide +kernel
theorem dX9_figuresByRow_35 : decode cX9_figuresByRow 35 = .ok (.getfield 16, 3) := by decide +kernel
theorem dX9_figuresByRow_38 : decode cX9_figuresByRow 38 = .ok (.iload_n 2, 1) := by decide +kernel
theorem dX9_figuresByRow_39 : decode cX9_figuresByRow 39 = .ok (.aload_n 1, 1) := by decide +kernel
theorem dX9_figuresByRow_40 : decode cX9_figuresByRow 40 = .ok (.iconst 0, 1) := by decide +kernel
theorem dX9_figuresByRow_41 : decode cX9_figuresByRow 41 = .ok (.invokestatic 267, 3) := by decide +kernel
theorem dX9_figuresByRow_44 : decode cX9_figuresByRow 44 = .ok (.ifCond .eq 10, 3) := by decide +kernel
theorem dX9_figuresByRow_47 : decode cX9_figuresByRow 47 = .ok (.iload_n 3, 1) := by decide +kernel
theorem dX9_figuresByRow_48 : decode cX9_figuresByRow 48 = .ok (.iconst 1, 1) := by decide +kernel
theorem dX9_figuresByRow_49 : decode cX9_figuresByRow 49 = .ok (.iload 4, 2) := by decide +kernel
theorem dX9_figuresByRow_51 : decode cX9_figuresByRow 51 = .ok (.ishl, 1) := by decide +kernel
theorem dX9_figuresByRow_52 : decode cX9_figuresByRow 52 = .ok (.ior, 1) := by decide +kernel
theorem dX9_figuresByRow_53 : decode cX9_figuresByRow 53 = .ok (.istore_n 3, 1) := by decide +kernel
theorem dX9_figuresByRow_54 : decode cX9_figuresByRow 54 = .ok (.iinc 4 1, 3) := by decide +kernel
theorem dX9_figuresByRow_57 : decode cX9_figuresByRow 57 = .ok (.goto (-52), 3) := by decide +kernel
theorem dX9_figuresByRow_60 : decode cX9_figuresByRow 60 = .ok (.iload_n 3, 1) := by decide +kernel
theorem dX9_figuresByRow_61 : decode cX9_figuresByRow 61 = .ok (.ireturn, 1) := by decide +kernel
theorem dX10_init_0 : decode cX10_init 0 = .ok (.aload_n 0, 1) := by decide +kernel
theorem dX10_init_1 : decode cX10_init 1 = .ok (.invokespecial 1, 3) := by decide +kernel
theorem dX10_init_4 : decode cX10_init 4 = .ok (.aload_n 0, 1) := by decide +kernel
theorem dX10_init_5 : decode cX10_init 5 = .ok (.bipush 10, 2) := by decide +kernel
theorem dX10_init_7 : decode cX10_init 7 = .ok (.newarray .int, 2) := by decide +kernel
theorem dX10_init_9 : decode cX10_init 9 = .ok (.putfield 7, 3) := by decide +kernel
theorem dX10_init_12 : decode cX10_init 12 = .ok (.aload_n 0, 1) := by decide +kernel
theorem dX10_init_13 : decode cX10_init 13 = .ok (.bipush 10, 2) := by decide +kernel
theorem dX10_init_15 : decode cX10_init 15 = .ok (.newarray .int, 2) := by decide +kernel
theorem dX10_init_17 : decode cX10_init 17 = .ok (.putfield 13, 3) := by decide +kernel
theorem dX10_init_20 : decode cX10_init 20 = .ok (.aload_n 0, 1) := by decide +kernel
theorem dX10_init_21 : decode cX10_init 21 = .ok (.bipush 10, 2) := by decide +kernel
theorem dX10_init_23 : decode cX10_init 23 = .ok (.newarray .int, 2) := by decide +kernel
theorem dX10_init_25 : decode cX10_init 25 = .ok (.putfield 16, 3) := by decide +kernel
theorem dX10_init_28 : decode cX10_init 28 = .ok (.aload_n 0, 1) := by decide +kernel
theorem dX10_init_29 : decode cX10_init 29 = .ok (.iconst 1, 1) := by decide +kernel
theorem dX10_init_30 : decode cX10_init 30 = .ok (.putfield 19, 3) := by decide +kernel
theorem dX10_init_33 : decode cX10_init 33 = .ok (.aload_n 0, 1) := by decide +kernel
theorem dX10_init_34 : decode cX10_init 34 = .ok (.iconst 1, 1) := by decide +kernel
theorem dX10_init_35 : decode cX10_init 35 = .ok (.putfield 23, 3) := by decide +kernel
theorem dX10_init_38 : decode cX10_init 38 = .ok (.aload_n 0, 1) := by decide +kernel
theorem dX10_init_39 : decode cX10_init 39 = .ok (.bipush 8, 2) := by decide +kernel
theorem dX10_init_41 : decode cX10_init 41 = .ok (.newarray .int, 2) := by decide +kernel
theorem dX10_init_43 : decode cX10_init 43 = .ok (.putfield 26, 3) := by decide +kernel
theorem dX10_init_46 : decode cX10_init 46 = .ok (.aload_n 0, 1) := by decide +kernel
theorem dX10_init_47 : decode cX10_init 47 = .ok (.bipush 8, 2) := by decide +kernel
theorem dX10_init_49 : decode cX10_init 49 = .ok (.newarray .int, 2) := by decide +kernel
theorem dX10_init_51 : decode cX10_init 51 = .ok (.putfield 29, 3) := by decide +kernel
theorem dX10_init_54 : decode cX10_init 54 = .ok (.aload_n 0, 1) := by decide +kernel
theorem dX10_init_55 : decode cX10_init 55 = .ok (.bipush 8, 2) := by decide +kernel
theorem dX10_init_57 : decode cX10_init 57 = .ok (.newarray .int, 2) := by decide +kernel
theorem dX10_init_59 : decode cX10_init 59 = .ok (.putfield 32, 3) := by decide +kernel
theorem dX10_init_62 : decode cX10_init 62 = .ok (.aload_n 0, 1) := by decide +kernel
theorem dX10_init_63 : decode cX10_init 63 = .ok (.bipush 8, 2) := by decide +kernel
theorem dX10_init_65 : decode cX10_init 65 = .ok (.newarray .int, 2) := by decide +kernel
theorem dX10_init_67 : decode cX10_init 67 = .ok (.putfield 35, 3) := by decide +kernel
theorem dX10_init_70 : decode cX10_init 70 = .ok (.aload_n 0, 1) := by decide +kernel
theorem dX10_init_71 : decode cX10_init 71 = .ok (.bipush 8, 2) := by decide +kernel
theorem dX10_init_73 : decode cX10_init 73 = .ok (.newarray .int, 2) := by decide +kernel
theorem dX10_init_75 : decode cX10_init 75 = .ok (.putfield 38, 3) := by decide +kernel
theorem dX10_init_78 : decode cX10_init 78 = .ok (.aload_n 0, 1) := by decide +kernel
theorem dX10_init_79 : decode cX10_init 79 = .ok (.sipush 800, 3) := by decide +kernel
theorem dX10_init_82 : decode cX10_init 82 = .ok (.newarray .long, 2) := by decide +kernel
theorem dX10_init_84 : decode cX10_init 84 = .ok (.putfield 41, 3) := by decide +kernel
theorem dX10_init_87 : decode cX10_init 87 = .ok (.aload_n 0, 1) := by decide +kernel
theorem dX10_init_88 : decode cX10_init 88 = .ok (.bipush 51, 2) := by decide +kernel
theorem dX10_init_90 : decode cX10_init 90 = .ok (.newarray .int, 2) := by decide +kernel
theorem dX10_init_92 : decode cX10_init 92 = .ok (.putfield 45, 3) := by decide +kernel
theorem dX10_init_95 : decode cX10_init 95 = .ok (.aload_n 0, 1) := by decide +kernel
theorem dX10_init_96 : decode cX10_init 96 = .ok (.bipush 51, 2) := by decide +kernel
theorem dX10_init_98 : decode cX10_init 98 = .ok (.newarray .int, 2) := by decide +kernel
theorem dX10_init_100 : decode cX10_init 100 = .ok (.putfield 48, 3) := by decide +kernel
theorem dX10_init_103 : decode cX10_init 103 = .ok (.aload_n 0, 1) := by decide +kernel
theorem dX10_init_104 : decode cX10_init 104 = .ok (.sipush 153, 3) := by decide +kernel
theorem dX10_init_107 : decode cX10_init 107 = .ok (.newarray .int, 2) := by decide +kernel
theorem dX10_init_109 : decode cX10_init 109 = .ok (.putfield 51, 3) := by decide +kernel
theorem dX10_init_112 : decode cX10_init 112 = .ok (.aload_n 0, 1) := by decide +kernel
theorem dX10_init_113 : decode cX10_init 113 = .ok (.bipush 38, 2) := by decide +kernel
theorem dX10_init_115 : decode cX10_init 115 = .ok (.newarray .int, 2) := by decide +kernel
theorem dX10_init_117 : decode cX10_init 117 = .ok (.putfield 54, 3) := by decide +kernel
theorem dX10_init_120 : decode cX10_init 120 = .ok (.aload_n 0, 1) := by decide +kernel
theorem dX10_init_121 : decode cX10_init 121 = .ok (.bipush 38, 2) := by decide +kernel
theorem dX10_init_123 : decode cX10_init 123 = .ok (.newarray .int, 2) := by decide +kernel
theorem dX10_init_125 : decode cX10_init 125 = .ok (.putfield 57, 3) := by decide +kernel
theorem dX10_init_128 : decode cX10_init 128 = .ok (.aload_n 0, 1) := by decide +kernel
theorem dX10_init_129 : decode cX10_init 129 = .ok (.bipush 100, 2) := by decide +kernel
theorem dX10_init_131 : decode cX10_init 131 = .ok (.newarray .int, 2) := by decide +kernel
theorem dX10_init_133 : decode cX10_init 133 = .ok (.putfield 60, 3) := by decide +kernel
theorem dX10_init_136 : decode cX10_init 136 = .ok (.aload_n 0, 1) := by decide +kernel
theorem dX10_init_137 : decode cX10_init 137 = .ok (.bipush 100, 2) := by decide +kernel
theorem dX10_init_139 : decode cX10_init 139 = .ok (.newarray .int, 2) := by decide +kernel
theorem dX10_init_141 : decode cX10_init 141 = .ok (.putfield 63, 3) := by decide +kernel
theorem dX10_init_144 : decode cX10_init 144 = .ok (.aload_n 0, 1) := by decide +kernel
theorem dX10_init_145 : decode cX10_init 145 = .ok (.bipush 100, 2) := by decide +kernel
theorem dX10_init_147 : decode cX10_init 147 = .ok (.newarray .long, 2) := by decide +kernel
theorem dX10_init_149 : decode cX10_init 149 = .ok (.putfield 66, 3) := by decide +kernel
theorem dX10_init_152 : decode cX10_init 152 = .ok (.aload_n 0, 1) := by decide +kernel
theorem dX10_init_153 : decode cX10_init 153 = .ok (.iconst 5, 1) := by decide +kernel
theorem dX10_init_154 : decode cX10_init 154 = .ok (.newarray .int, 2) := by decide +kernel
theorem dX10_init_156 : decode cX10_init 156 = .ok (.putfield 69, 3) := by decide +kernel
theorem dX10_init_159 : decode cX10_init 159 = .ok (.aload_n 0, 1) := by decide +kernel
theorem dX10_init_160 : decode cX10_init 160 = .ok (.iconst 5, 1) := by decide +kernel
theorem dX10_init_161 : decode cX10_init 161 = .ok (.newarray .int, 2) := by decide +kernel
theorem dX10_init_163 : decode cX10_init 163 = .ok (.putfield 72, 3) := by decide +kernel
theorem dX10_init_166 : decode cX10_init 166 = .ok (.aload_n 0, 1) := by decide +kernel
theorem dX10_init_167 : decode cX10_init 167 = .ok (.bipush 100, 2) := by decide +kernel
theorem dX10_init_169 : decode cX10_init 169 = .ok (.newarray .long, 2) := by decide +kernel
theorem dX10_init_171 : decode cX10_init 171 = .ok (.putfield 75, 3) := by decide +kernel
theorem dX10_init_174 : decode cX10_init 174 = .ok (.aload_n 0, 1) := by decide +kernel
theorem dX10_init_175 : decode cX10_init 175 = .ok (.iconst 0, 1) := by decide +kernel
theorem dX10_init_176 : decode cX10_init 176 = .ok (.putfield 78, 3) := by decide +kernel
theorem dX10_init_179 : decode cX10_init 179 = .ok (.return_, 1) := by decide +kernel
theorem dX10_thrown_0 : decode cX10_thrown 0 = .ok (.aload_n 0, 1) := by decide +kernel
theorem dX10_thrown_1 : decode cX10_thrown 1 = .ok (.getfield 78, 3) := by decide +kernel
theorem dX10_thrown_4 : decode cX10_thrown 4 = .ok (.ireturn, 1) := by decide +kernel
theorem dX10_in_0 : decode cX10_in 0 = .ok (.lload_n 0, 1) := by decide +kernel
theorem dX10_in_1 : decode cX10_in 1 = .ok (.lload_n 2, 1) := by decide +kernel
theorem dX10_in_2 : decode cX10_in 2 = .ok (.lcmp, 1) := by decide +kernel
theorem dX10_in_3 : decode cX10_in 3 = .ok (.ifCond .lt 14, 3) := by decide +kernel
theorem dX10_in_6 : decode cX10_in 6 = .ok (.lload_n 0, 1) := by decide +kernel
theorem dX10_in_7 : decode cX10_in 7 = .ok (.lload 4, 2) := by decide +kernel
theorem dX10_in_9 : decode cX10_in 9 = .ok (.lcmp, 1) := by decide +kernel
theorem dX10_in_10 : decode cX10_in 10 = .ok (.ifCond .gt 7, 3) := by decide +kernel
theorem dX10_in_13 : decode cX10_in 13 = .ok (.iconst 1, 1) := by decide +kernel
theorem dX10_in_14 : decode cX10_in 14 = .ok (.goto 4, 3) := by decide +kernel
theorem dX10_in_17 : decode cX10_in 17 = .ok (.iconst 0, 1) := by decide +kernel
theorem dX10_in_18 : decode cX10_in 18 = .ok (.ireturn, 1) := by decide +kernel
theorem dX10_hasBit_0 : decode cX10_hasBit 0 = .ok (.iload_n 0, 1) := by decide +kernel
theorem dX10_hasBit_1 : decode cX10_hasBit 1 = .ok (.iload_n 1, 1) := by decide +kernel
theorem dX10_hasBit_2 : decode cX10_hasBit 2 = .ok (.ishr, 1) := by decide +kernel
theorem dX10_hasBit_3 : decode cX10_hasBit 3 = .ok (.iconst 1, 1) := by decide +kernel
theorem dX10_hasBit_4 : decode cX10_hasBit 4 = .ok (.iand, 1) := by decide +kernel
theorem dX10_hasBit_5 : decode cX10_hasBit 5 = .ok (.iconst 1, 1) := by decide +kernel
theorem dX10_hasBit_6 : decode cX10_hasBit 6 = .ok (.if_icmp .ne 7, 3) := by decide +kernel
theorem dX10_hasBit_9 : decode cX10_hasBit 9 = .ok (.iconst 1, 1) := by decide +kernel
theorem dX10_hasBit_10 : decode cX10_hasBit 10 = .ok (.goto 4, 3) := by decide +kernel
theorem dX10_hasBit_13 : decode cX10_hasBit 13 = .ok (.iconst 0, 1) := by decide +kernel
theorem dX10_hasBit_14 : decode cX10_hasBit 14 = .ok (.ireturn, 1) := by decide +kernel
theorem dX10_onesOf_0 : decode cX10_onesOf 0 = .ok (.iconst 0, 1) := by decide +kernel
theorem dX10_onesOf_1 : decode cX10_onesOf 1 = .ok (.istore_n 1, 1) := by decide +kernel
theorem dX10_onesOf_2 : decode cX10_onesOf 2 = .ok (.iload_n 0, 1) := by decide +kernel
theorem dX10_onesOf_3 : decode cX10_onesOf 3 = .ok (.istore_n 2, 1) := by decide +kernel
theorem dX10_onesOf_4 : decode cX10_onesOf 4 = .ok (.iload_n 2, 1) := by decide +kernel
theorem dX10_onesOf_5 : decode cX10_onesOf 5 = .ok (.ifCond .eq 15, 3) := by decide +kernel
theorem dX10_onesOf_8 : decode cX10_onesOf 8 = .ok (.iinc 1 1, 3) := by decide +kernel
theorem dX10_onesOf_11 : decode cX10_onesOf 11 = .ok (.iload_n 2, 1) := by decide +kernel
theorem dX10_onesOf_12 : decode cX10_onesOf 12 = .ok (.iload_n 2, 1) := by decide +kernel
theorem dX10_onesOf_13 : decode cX10_onesOf 13 = .ok (.iconst 1, 1) := by decide +kernel
theorem dX10_onesOf_14 : decode cX10_onesOf 14 = .ok (.isub, 1) := by decide +kernel
theorem dX10_onesOf_15 : decode cX10_onesOf 15 = .ok (.iand, 1) := by decide +kernel
theorem dX10_onesOf_16 : decode cX10_onesOf 16 = .ok (.istore_n 2, 1) := by decide +kernel
theorem dX10_onesOf_17 : decode cX10_onesOf 17 = .ok (.goto (-13), 3) := by decide +kernel
theorem dX10_onesOf_20 : decode cX10_onesOf 20 = .ok (.iload_n 1, 1) := by decide +kernel
theorem dX10_onesOf_21 : decode cX10_onesOf 21 = .ok (.ireturn, 1) := by decide +kernel
theorem dX10_held_0 : decode cX10_held 0 = .ok (.iload_n 0, 1) := by decide +kernel
theorem dX10_held_1 : decode cX10_held 1 = .ok (.ifCond .ge 7, 3) := by decide +kernel
theorem dX10_held_4 : decode cX10_held 4 = .ok (.iconst 0, 1) := by decide +kernel
theorem dX10_held_5 : decode cX10_held 5 = .ok (.goto 13, 3) := by decide +kernel
theorem dX10_held_8 : decode cX10_held 8 = .ok (.iload_n 0, 1) := by decide +kernel
theorem dX10_held_9 : decode cX10_held 9 = .ok (.iload_n 1, 1) := by decide +kernel
theorem dX10_held_10 : decode cX10_held 10 = .ok (.if_icmp .le 7, 3) := by decide +kernel
theorem dX10_held_13 : decode cX10_held 13 = .ok (.iload_n 1, 1) := by decide +kernel
theorem dX10_held_14 : decode cX10_held 14 = .ok (.goto 4, 3) := by decide +kernel
theorem dX10_held_17 : decode cX10_held 17 = .ok (.iload_n 0, 1) := by decide +kernel
theorem dX10_held_18 : decode cX10_held 18 = .ok (.ireturn, 1) := by decide +kernel
theorem dX10_far_0 : decode cX10_far 0 = .ok (.iload_n 0, 1) := by decide +kernel
theorem dX10_far_1 : decode cX10_far 1 = .ok (.iload_n 1, 1) := by decide +kernel
theorem dX10_far_2 : decode cX10_far 2 = .ok (.if_icmp .ge 9, 3) := by decide +kernel
theorem dX10_far_5 : decode cX10_far 5 = .ok (.iload_n 1, 1) := by decide +kernel
theorem dX10_far_6 : decode cX10_far 6 = .ok (.iload_n 0, 1) := by decide +kernel
theorem dX10_far_7 : decode cX10_far 7 = .ok (.isub, 1) := by decide +kernel
theorem dX10_far_8 : decode cX10_far 8 = .ok (.goto 6, 3) := by decide +kernel
theorem dX10_far_11 : decode cX10_far 11 = .ok (.iload_n 0, 1) := by decide +kernel
theorem dX10_far_12 : decode cX10_far 12 = .ok (.iload_n 1, 1) := by decide +kernel
theorem dX10_far_13 : decode cX10_far 13 = .ok (.isub, 1) := by decide +kernel
theorem dX10_far_14 : decode cX10_far 14 = .ok (.ireturn, 1) := by decide +kernel
theorem dX10_isBulb_0 : decode cX10_isBulb 0 = .ok (.iload_n 1, 1) := by decide +kernel
theorem dX10_isBulb_1 : decode cX10_isBulb 1 = .ok (.i2l, 1) := by decide +kernel
theorem dX10_isBulb_2 : decode cX10_isBulb 2 = .ok (.lconst 0, 1) := by decide +kernel
theorem dX10_isBulb_3 : decode cX10_isBulb 3 = .ok (.aload_n 0, 1) := by decide +kernel
theorem dX10_isBulb_4 : decode cX10_isBulb 4 = .ok (.getfield 81, 3) := by decide +kernel
theorem dX10_isBulb_7 : decode cX10_isBulb 7 = .ok (.iconst 1, 1) := by decide +kernel
theorem dX10_isBulb_8 : decode cX10_isBulb 8 = .ok (.isub, 1) := by decide +kernel
theorem dX10_isBulb_9 : decode cX10_isBulb 9 = .ok (.i2l, 1) := by decide +kernel
theorem dX10_isBulb_10 : decode cX10_isBulb 10 = .ok (.invokestatic 84, 3) := by decide +kernel
theorem dX10_isBulb_13 : decode cX10_isBulb 13 = .ok (.ireturn, 1) := by decide +kernel
theorem dX10_leads_0 : decode cX10_leads 0 = .ok (.aload_n 0, 1) := by decide +kernel
theorem dX10_leads_1 : decode cX10_leads 1 = .ok (.getfield 88, 3) := by decide +kernel
theorem dX10_leads_4 : decode cX10_leads 4 = .ok (.iload_n 1, 1) := by decide +kernel
theorem dX10_leads_5 : decode cX10_leads 5 = .ok (.invokestatic 91, 3) := by decide +kernel
theorem dX10_leads_8 : decode cX10_leads 8 = .ok (.istore_n 3, 1) := by decide +kernel
theorem dX10_leads_9 : decode cX10_leads 9 = .ok (.aload_n 0, 1) := by decide +kernel
theorem dX10_leads_10 : decode cX10_leads 10 = .ok (.getfield 13, 3) := by decide +kernel
theorem dX10_leads_13 : decode cX10_leads 13 = .ok (.iload_n 1, 1) := by decide +kernel
theorem dX10_leads_14 : decode cX10_leads 14 = .ok (.iaload, 1) := by decide +kernel
theorem dX10_leads_15 : decode cX10_leads 15 = .ok (.istore 4, 2) := by decide +kernel
theorem dX10_leads_17 : decode cX10_leads 17 = .ok (.aload_n 0, 1) := by decide +kernel
theorem dX10_leads_18 : decode cX10_leads 18 = .ok (.getfield 7, 3) := by decide +kernel
theorem dX10_leads_21 : decode cX10_leads 21 = .ok (.iload_n 1, 1) := by decide +kernel
theorem dX10_leads_22 : decode cX10_leads 22 = .ok (.iaload, 1) := by decide +kernel
theorem dX10_leads_23 : decode cX10_leads 23 = .ok (.tableswitch 101 1 4 #[29, 50, 80, 82], 29) := by decide +kernel
theorem dX10_leads_52 : decode cX10_leads 52 = .ok (.iload_n 3, 1) := by decide +kernel
theorem dX10_leads_53 : decode cX10_leads 53 = .ok (.ifCond .eq 18, 3) := by decide +kernel
theorem dX10_leads_56 : decode cX10_leads 56 = .ok (.aload_n 0, 1) := by decide +kernel
theorem dX10_leads_57 : decode cX10_leads 57 = .ok (.getfield 95, 3) := by decide +kernel
theorem dX10_leads_60 : decode cX10_leads 60 = .ok (.iload_n 1, 1) := by decide +kernel
theorem dX10_leads_61 : decode cX10_leads 61 = .ok (.invokestatic 91, 3) := by decide +kernel
theorem dX10_leads_64 : decode cX10_leads 64 = .ok (.ifCond .eq 7, 3) := by decide +kernel
theorem dX10_leads_67 : decode cX10_leads 67 = .ok (.iconst 1, 1) := by decide +kernel
theorem dX10_leads_68 : decode cX10_leads 68 = .ok (.goto 4, 3) := by decide +kernel
theorem dX10_leads_71 : decode cX10_leads 71 = .ok (.iconst 0, 1) := by decide +kernel
theorem dX10_leads_72 : decode cX10_leads 72 = .ok (.ireturn, 1) := by decide +kernel
theorem dX10_leads_73 : decode cX10_leads 73 = .ok (.iload_n 3, 1) := by decide +kernel
theorem dX10_leads_74 : decode cX10_leads 74 = .ok (.ifCond .eq 27, 3) := by decide +kernel
theorem dX10_leads_77 : decode cX10_leads 77 = .ok (.aload_n 0, 1) := by decide +kernel
theorem dX10_leads_78 : decode cX10_leads 78 = .ok (.getfield 16, 3) := by decide +kernel
theorem dX10_leads_81 : decode cX10_leads 81 = .ok (.iload_n 1, 1) := by decide +kernel
theorem dX10_leads_82 : decode cX10_leads 82 = .ok (.iaload, 1) := by decide +kernel
theorem dX10_leads_83 : decode cX10_leads 83 = .ok (.bipush 10, 2) := by decide +kernel
theorem dX10_leads_85 : decode cX10_leads 85 = .ok (.iload 4, 2) := by decide +kernel
theorem dX10_leads_87 : decode cX10_leads 87 = .ok (.imul, 1) := by decide +kernel
theorem dX10_leads_88 : decode cX10_leads 88 = .ok (.if_icmp .lt 9, 3) := by decide +kernel
theorem dX10_leads_91 : decode cX10_leads 91 = .ok (.iload_n 2, 1) := by decide +kernel
theorem dX10_leads_92 : decode cX10_leads 92 = .ok (.iconst 2, 1) := by decide +kernel
theorem dX10_leads_93 : decode cX10_leads 93 = .ok (.irem, 1) := by decide +kernel
theorem dX10_leads_94 : decode cX10_leads 94 = .ok (.ifCond .ne 7, 3) := by decide +kernel
theorem dX10_leads_97 : decode cX10_leads 97 = .ok (.iconst 1, 1) := by decide +kernel
theorem dX10_leads_98 : decode cX10_leads 98 = .ok (.goto 4, 3) := by decide +kernel
theorem dX10_leads_101 : decode cX10_leads 101 = .ok (.iconst 0, 1) := by decide +kernel
theorem dX10_leads_102 : decode cX10_leads 102 = .ok (.ireturn, 1) := by decide +kernel
theorem dX10_leads_103 : decode cX10_leads 103 = .ok (.iconst 1, 1) := by decide +kernel
theorem dX10_leads_104 : decode cX10_leads 104 = .ok (.ireturn, 1) := by decide +kernel
theorem dX10_leads_105 : decode cX10_leads 105 = .ok (.iload_n 3, 1) := by decide +kernel
theorem dX10_leads_106 : decode cX10_leads 106 = .ok (.ifCond .eq 16, 3) := by decide +kernel
theorem dX10_leads_109 : decode cX10_leads 109 = .ok (.iload_n 2, 1) := by decide +kernel
theorem dX10_leads_110 : decode cX10_leads 110 = .ok (.iload 4, 2) := by decide +kernel
theorem dX10_leads_112 : decode cX10_leads 112 = .ok (.iconst 2, 1) := by decide +kernel
theorem dX10_leads_113 : decode cX10_leads 113 = .ok (.iadd, 1) := by decide +kernel
theorem dX10_leads_114 : decode cX10_leads 114 = .ok (.irem, 1) := by decide +kernel
theorem dX10_leads_115 : decode cX10_leads 115 = .ok (.ifCond .eq 7, 3) := by decide +kernel
theorem dX10_leads_118 : decode cX10_leads 118 = .ok (.iconst 1, 1) := by decide +kernel
theorem dX10_leads_119 : decode cX10_leads 119 = .ok (.goto 4, 3) := by decide +kernel
theorem dX10_leads_122 : decode cX10_leads 122 = .ok (.iconst 0, 1) := by decide +kernel
theorem dX10_leads_123 : decode cX10_leads 123 = .ok (.ireturn, 1) := by decide +kernel
theorem dX10_leads_124 : decode cX10_leads 124 = .ok (.iload_n 3, 1) := by decide +kernel
theorem dX10_leads_125 : decode cX10_leads 125 = .ok (.ireturn, 1) := by decide +kernel
theorem dX10_lifeOf_0 : decode cX10_lifeOf 0 = .ok (.aload_n 0, 1) := by decide +kernel
theorem dX10_lifeOf_1 : decode cX10_lifeOf 1 = .ok (.getfield 13, 3) := by decide +kernel
theorem dX10_lifeOf_4 : decode cX10_lifeOf 4 = .ok (.iload_n 1, 1) := by decide +kernel
theorem dX10_lifeOf_5 : decode cX10_lifeOf 5 = .ok (.iaload, 1) := by decide +kernel
theorem dX10_lifeOf_6 : decode cX10_lifeOf 6 = .ok (.istore_n 2, 1) := by decide +kernel
theorem dX10_lifeOf_7 : decode cX10_lifeOf 7 = .ok (.aload_n 0, 1) := by decide +kernel
theorem dX10_lifeOf_8 : decode cX10_lifeOf 8 = .ok (.getfield 7, 3) := by decide +kernel
theorem dX10_lifeOf_11 : decode cX10_lifeOf 11 = .ok (.iload_n 1, 1) := by decide +kernel
theorem dX10_lifeOf_12 : decode cX10_lifeOf 12 = .ok (.iaload, 1) := by decide +kernel
theorem dX10_lifeOf_13 : decode cX10_lifeOf 13 = .ok (.tableswitch 66 2 7 #[39, 66, 66, 46, 54, 58], 39) := by decide +kernel
theorem dX10_lifeOf_52 : decode cX10_lifeOf 52 = .ok (.bipush 30, 2) := by decide +kernel
theorem dX10_lifeOf_54 : decode cX10_lifeOf 54 = .ok (.iconst 5, 1) := by decide +kernel
theorem dX10_lifeOf_55 : decode cX10_lifeOf 55 = .ok (.iload_n 2, 1) := by decide +kernel
theorem dX10_lifeOf_56 : decode cX10_lifeOf 56 = .ok (.imul, 1) := by decide +kernel
theorem dX10_lifeOf_57 : decode cX10_lifeOf 57 = .ok (.iadd, 1) := by decide +kernel
theorem dX10_lifeOf_58 : decode cX10_lifeOf 58 = .ok (.ireturn, 1) := by decide +kernel
theorem dX10_lifeOf_59 : decode cX10_lifeOf 59 = .ok (.bipush 40, 2) := by decide +kernel
theorem dX10_lifeOf_61 : decode cX10_lifeOf 61 = .ok (.bipush 10, 2) := by decide +kernel
theorem dX10_lifeOf_63 : decode cX10_lifeOf 63 = .ok (.iload_n 2, 1) := by decide +kernel
theorem dX10_lifeOf_64 : decode cX10_lifeOf 64 = .ok (.imul, 1) := by decide +kernel
theorem dX10_lifeOf_65 : decode cX10_lifeOf 65 = .ok (.iadd, 1) := by decide +kernel
theorem dX10_lifeOf_66 : decode cX10_lifeOf 66 = .ok (.ireturn, 1) := by decide +kernel
theorem dX10_lifeOf_67 : decode cX10_lifeOf 67 = .ok (.sipush 150, 3) := by decide +kernel
theorem dX10_lifeOf_70 : decode cX10_lifeOf 70 = .ok (.ireturn, 1) := by decide +kernel
theorem dX10_lifeOf_71 : decode cX10_lifeOf 71 = .ok (.bipush 80, 2) := by decide +kernel
theorem dX10_lifeOf_73 : decode cX10_lifeOf 73 = .ok (.bipush 20, 2) := by decide +kernel
theorem dX10_lifeOf_75 : decode cX10_lifeOf 75 = .ok (.iload_n 2, 1) := by decide +kernel
theorem dX10_lifeOf_76 : decode cX10_lifeOf 76 = .ok (.imul, 1) := by decide +kernel
theorem dX10_lifeOf_77 : decode cX10_lifeOf 77 = .ok (.iadd, 1) := by decide +kernel
theorem dX10_lifeOf_78 : decode cX10_lifeOf 78 = .ok (.ireturn, 1) := by decide +kernel
theorem dX10_lifeOf_79 : decode cX10_lifeOf 79 = .ok (.bipush 60, 2) := by decide +kernel
theorem dX10_lifeOf_81 : decode cX10_lifeOf 81 = .ok (.bipush 10, 2) := by decide +kernel
theorem dX10_lifeOf_83 : decode cX10_lifeOf 83 = .ok (.iload_n 2, 1) := by decide +kernel
theorem dX10_lifeOf_84 : decode cX10_lifeOf 84 = .ok (.imul, 1) := by decide +kernel
theorem dX10_lifeOf_85 : decode cX10_lifeOf 85 = .ok (.iadd, 1) := by decide +kernel
theorem dX10_lifeOf_86 : decode cX10_lifeOf 86 = .ok (.ireturn, 1) := by decide +kernel
theorem dX10_glowOf_0 : decode cX10_glowOf 0 = .ok (.aload_n 0, 1) := by decide +kernel
theorem dX10_glowOf_1 : decode cX10_glowOf 1 = .ok (.getfield 7, 3) := by decide +kernel
theorem dX10_glowOf_4 : decode cX10_glowOf 4 = .ok (.iload_n 1, 1) := by decide +kernel
theorem dX10_glowOf_5 : decode cX10_glowOf 5 = .ok (.iaload, 1) := by decide +kernel
theorem dX10_glowOf_6 : decode cX10_glowOf 6 = .ok (.tableswitch 57 2 7 #[38, 40, 57, 42, 44, 55], 38) := by decide +kernel
theorem dX10_glowOf_44 : decode cX10_glowOf 44 = .ok (.iconst 1, 1) := by decide +kernel
theorem dX10_glowOf_45 : decode cX10_glowOf 45 = .ok (.ireturn, 1) := by decide +kernel
theorem dX10_glowOf_46 : decode cX10_glowOf 46 = .ok (.iconst 0, 1) := by decide +kernel
theorem dX10_glowOf_47 : decode cX10_glowOf 47 = .ok (.ireturn, 1) := by decide +kernel
theorem dX10_glowOf_48 : decode cX10_glowOf 48 = .ok (.iconst 3, 1) := by decide +kernel
theorem dX10_glowOf_49 : decode cX10_glowOf 49 = .ok (.ireturn, 1) := by decide +kernel
theorem dX10_glowOf_50 : decode cX10_glowOf 50 = .ok (.iconst 4, 1) := by decide +kernel
theorem dX10_glowOf_51 : decode cX10_glowOf 51 = .ok (.aload_n 0, 1) := by decide +kernel
theorem dX10_glowOf_52 : decode cX10_glowOf 52 = .ok (.getfield 13, 3) := by decide +kernel
theorem dX10_glowOf_55 : decode cX10_glowOf 55 = .ok (.iload_n 1, 1) := by decide +kernel
theorem dX10_glowOf_56 : decode cX10_glowOf 56 = .ok (.iaload, 1) := by decide +kernel
theorem dX10_glowOf_57 : decode cX10_glowOf 57 = .ok (.iconst 2, 1) := by decide +kernel
theorem dX10_glowOf_58 : decode cX10_glowOf 58 = .ok (.idiv, 1) := by decide +kernel
theorem dX10_glowOf_59 : decode cX10_glowOf 59 = .ok (.iadd, 1) := by decide +kernel
theorem dX10_glowOf_60 : decode cX10_glowOf 60 = .ok (.ireturn, 1) := by decide +kernel
theorem dX10_glowOf_61 : decode cX10_glowOf 61 = .ok (.iconst 5, 1) := by decide +kernel
theorem dX10_glowOf_62 : decode cX10_glowOf 62 = .ok (.ireturn, 1) := by decide +kernel
theorem dX10_glowOf_63 : decode cX10_glowOf 63 = .ok (.iconst 4, 1) := by decide +kernel
theorem dX10_glowOf_64 : decode cX10_glowOf 64 = .ok (.ireturn, 1) := by decide +kernel
theorem dX10_isBrown_0 : decode cX10_isBrown 0 = .ok (.aload_n 0, 1) := by decide +kernel
theorem dX10_isBrown_1 : decode cX10_isBrown 1 = .ok (.getfield 16, 3) := by decide +kernel
theorem dX10_isBrown_4 : decode cX10_isBrown 4 = .ok (.iload_n 1, 1) := by decide +kernel
theorem dX10_isBrown_5 : decode cX10_isBrown 5 = .ok (.iaload, 1) := by decide +kernel
theorem dX10_isBrown_6 : decode cX10_isBrown 6 = .ok (.aload_n 0, 1) := by decide +kernel
theorem dX10_isBrown_7 : decode cX10_isBrown 7 = .ok (.iload_n 1, 1) := by decide +kernel
theorem dX10_isBrown_8 : decode cX10_isBrown 8 = .ok (.invokevirtual 98, 3) := by decide +kernel
theorem dX10_isBrown_11 : decode cX10_isBrown 11 = .ok (.iconst 2, 1) := by decide +kernel
theorem dX10_isBrown_12 : decode cX10_isBrown 12 = .ok (.idiv, 1) := by decide +kernel
theorem dX10_isBrown_13 : decode cX10_isBrown 13 = .ok (.if_icmp .lt 7, 3) := by decide +kernel
theorem dX10_isBrown_16 : decode cX10_isBrown 16 = .ok (.iconst 1, 1) := by decide +kernel
theorem dX10_isBrown_17 : decode cX10_isBrown 17 = .ok (.goto 4, 3) := by decide +kernel
theorem dX10_isBrown_20 : decode cX10_isBrown 20 = .ok (.iconst 0, 1) := by decide +kernel
theorem dX10_isBrown_21 : decode cX10_isBrown 21 = .ok (.ireturn, 1) := by decide +kernel
theorem dX10_allLead_0 : decode cX10_allLead 0 = .ok (.iconst 1, 1) := by decide +kernel
theorem dX10_allLead_1 : decode cX10_allLead 1 = .ok (.istore 4, 2) := by decide +kernel
theorem dX10_allLead_3 : decode cX10_allLead 3 = .ok (.iload_n 1, 1) := by decide +kernel
theorem dX10_allLead_4 : decode cX10_allLead 4 = .ok (.istore 5, 2) := by decide +kernel
theorem dX10_allLead_6 : decode cX10_allLead 6 = .ok (.iload 5, 2) := by decide +kernel
theorem dX10_allLead_8 : decode cX10_allLead 8 = .ok (.iload_n 2, 1) := by decide +kernel
theorem dX10_allLead_9 : decode cX10_allLead 9 = .ok (.if_icmp .ge 31, 3) := by decide +kernel
theorem dX10_allLead_12 : decode cX10_allLead 12 = .ok (.iload 4, 2) := by decide +kernel
theorem dX10_allLead_14 : decode cX10_allLead 14 = .ok (.ifCond .eq 17, 3) := by decide +kernel
theorem dX10_allLead_17 : decode cX10_allLead 17 = .ok (.aload_n 0, 1) := by decide +kernel
theorem dX10_allLead_18 : decode cX10_allLead 18 = .ok (.iload 5, 2) := by decide +kernel
theorem dX10_allLead_20 : decode cX10_allLead 20 = .ok (.iload_n 3, 1) := by decide +kernel
theorem dX10_allLead_21 : decode cX10_allLead 21 = .ok (.invokevirtual 102, 3) := by decide +kernel
theorem dX10_allLead_24 : decode cX10_allLead 24 = .ok (.ifCond .eq 7, 3) := by decide +kernel
theorem dX10_allLead_27 : decode cX10_allLead 27 = .ok (.iconst 1, 1) := by decide +kernel
theorem dX10_allLead_28 : decode cX10_allLead 28 = .ok (.goto 4, 3) := by decide +kernel
theorem dX10_allLead_31 : decode cX10_allLead 31 = .ok (.iconst 0, 1) := by decide +kernel
theorem dX10_allLead_32 : decode cX10_allLead 32 = .ok (.istore 4, 2) := by decide +kernel
theorem dX10_allLead_34 : decode cX10_allLead 34 = .ok (.iinc 5 1, 3) := by decide +kernel
theorem dX10_allLead_37 : decode cX10_allLead 37 = .ok (.goto (-31), 3) := by decide +kernel
theorem dX10_allLead_40 : decode cX10_allLead 40 = .ok (.iload 4, 2) := by decide +kernel
theorem dX10_allLead_42 : decode cX10_allLead 42 = .ok (.ireturn, 1) := by decide +kernel
theorem dX10_wholeOf_0 : decode cX10_wholeOf 0 = .ok (.iconst 0, 1) := by decide +kernel
theorem dX10_wholeOf_1 : decode cX10_wholeOf 1 = .ok (.istore_n 3, 1) := by decide +kernel
theorem dX10_wholeOf_2 : decode cX10_wholeOf 2 = .ok (.iload_n 1, 1) := by decide +kernel
theorem dX10_wholeOf_3 : decode cX10_wholeOf 3 = .ok (.istore 4, 2) := by decide +kernel
theorem dX10_wholeOf_5 : decode cX10_wholeOf 5 = .ok (.iload 4, 2) := by decide +kernel
theorem dX10_wholeOf_7 : decode cX10_wholeOf 7 = .ok (.iload_n 2, 1) := by decide +kernel
theorem dX10_wholeOf_8 : decode cX10_wholeOf 8 = .ok (.if_icmp .ge 29, 3) := by decide +kernel
theorem dX10_wholeOf_11 : decode cX10_wholeOf 11 = .ok (.iload_n 3, 1) := by decide +kernel
theorem dX10_wholeOf_12 : decode cX10_wholeOf 12 = .ok (.aload_n 0, 1) := by decide +kernel
theorem dX10_wholeOf_13 : decode cX10_wholeOf 13 = .ok (.getfield 88, 3) := by decide +kernel
theorem dX10_wholeOf_16 : decode cX10_wholeOf 16 = .ok (.iload 4, 2) := by decide +kernel
theorem dX10_wholeOf_18 : decode cX10_wholeOf 18 = .ok (.invokestatic 91, 3) := by decide +kernel
theorem dX10_wholeOf_21 : decode cX10_wholeOf 21 = .ok (.ifCond .eq 7, 3) := by decide +kernel
theorem dX10_wholeOf_24 : decode cX10_wholeOf 24 = .ok (.iconst 1, 1) := by decide +kernel
theorem dX10_wholeOf_25 : decode cX10_wholeOf 25 = .ok (.goto 4, 3) := by decide +kernel
theorem dX10_wholeOf_28 : decode cX10_wholeOf 28 = .ok (.iconst 0, 1) := by decide +kernel
theorem dX10_wholeOf_29 : decode cX10_wholeOf 29 = .ok (.iadd, 1) := by decide +kernel
theorem dX10_wholeOf_30 : decode cX10_wholeOf 30 = .ok (.istore_n 3, 1) := by decide +kernel
theorem dX10_wholeOf_31 : decode cX10_wholeOf 31 = .ok (.iinc 4 1, 3) := by decide +kernel
theorem dX10_wholeOf_34 : decode cX10_wholeOf 34 = .ok (.goto (-29), 3) := by decide +kernel
theorem dX10_wholeOf_37 : decode cX10_wholeOf 37 = .ok (.iload_n 3, 1) := by decide +kernel
theorem dX10_wholeOf_38 : decode cX10_wholeOf 38 = .ok (.ireturn, 1) := by decide +kernel
theorem dX10_burns_0 : decode cX10_burns 0 = .ok (.iload_n 1, 1) := by decide +kernel
theorem dX10_burns_1 : decode cX10_burns 1 = .ok (.iload_n 2, 1) := by decide +kernel
theorem dX10_burns_2 : decode cX10_burns 2 = .ok (.if_icmp .eq 16, 3) := by decide +kernel
theorem dX10_burns_5 : decode cX10_burns 5 = .ok (.aload_n 0, 1) := by decide +kernel
theorem dX10_burns_6 : decode cX10_burns 6 = .ok (.iload_n 1, 1) := by decide +kernel
theorem dX10_burns_7 : decode cX10_burns 7 = .ok (.iload_n 2, 1) := by decide +kernel
theorem dX10_burns_8 : decode cX10_burns 8 = .ok (.aload_n 0, 1) := by decide +kernel
theorem dX10_burns_9 : decode cX10_burns 9 = .ok (.getfield 105, 3) := by decide +kernel
theorem dX10_burns_12 : decode cX10_burns 12 = .ok (.invokevirtual 108, 3) := by decide +kernel
theorem dX10_burns_15 : decode cX10_burns 15 = .ok (.ifCond .ne 5, 3) := by decide +kernel
theorem dX10_burns_18 : decode cX10_burns 18 = .ok (.iconst 0, 1) := by decide +kernel
theorem dX10_burns_19 : decode cX10_burns 19 = .ok (.ireturn, 1) := by decide +kernel
theorem dX10_burns_20 : decode cX10_burns 20 = .ok (.aload_n 0, 1) := by decide +kernel
theorem dX10_burns_21 : decode cX10_burns 21 = .ok (.iload_n 1, 1) := by decide +kernel
theorem dX10_burns_22 : decode cX10_burns 22 = .ok (.iload_n 2, 1) := by decide +kernel
theorem dX10_burns_23 : decode cX10_burns 23 = .ok (.invokevirtual 112, 3) := by decide +kernel
theorem dX10_burns_26 : decode cX10_burns 26 = .ok (.istore_n 3, 1) := by decide +kernel
theorem dX10_burns_27 : decode cX10_burns 27 = .ok (.iload_n 3, 1) := by decide +kernel
theorem dX10_burns_28 : decode cX10_burns 28 = .ok (.ifCond .ne 7, 3) := by decide +kernel
theorem dX10_burns_31 : decode cX10_burns 31 = .ok (.iconst 0, 1) := by decide +kernel
theorem dX10_burns_32 : decode cX10_burns 32 = .ok (.goto 12, 3) := by decide +kernel
theorem dX10_burns_35 : decode cX10_burns 35 = .ok (.aload_n 0, 1) := by decide +kernel
theorem dX10_burns_36 : decode cX10_burns 36 = .ok (.getfield 23, 3) := by decide +kernel
theorem dX10_burns_39 : decode cX10_burns 39 = .ok (.bipush 60, 2) := by decide +kernel
theorem dX10_burns_41 : decode cX10_burns 41 = .ok (.iload_n 3, 1) := by decide +kernel
theorem dX10_burns_42 : decode cX10_burns 42 = .ok (.idiv, 1) := by decide +kernel
theorem dX10_burns_43 : decode cX10_burns 43 = .ok (.imul, 1) := by decide +kernel
theorem dX10_burns_44 : decode cX10_burns 44 = .ok (.istore 4, 2) := by decide +kernel
theorem dX10_burns_46 : decode cX10_burns 46 = .ok (.aload_n 0, 1) := by decide +kernel
theorem dX10_burns_47 : decode cX10_burns 47 = .ok (.dup, 1) := by decide +kernel
theorem dX10_burns_48 : decode cX10_burns 48 = .ok (.getfield 116, 3) := by decide +kernel
theorem dX10_burns_51 : decode cX10_burns 51 = .ok (.iload_n 3, 1) := by decide +kernel
theorem dX10_burns_52 : decode cX10_burns 52 = .ok (.iadd, 1) := by decide +kernel
theorem dX10_burns_53 : decode cX10_burns 53 = .ok (.putfield 116, 3) := by decide +kernel
theorem dX10_burns_56 : decode cX10_burns 56 = .ok (.iload_n 1, 1) := by decide +kernel
theorem dX10_burns_57 : decode cX10_burns 57 = .ok (.istore 5, 2) := by decide +kernel
theorem dX10_burns_59 : decode cX10_burns 59 = .ok (.iload 5, 2) := by decide +kernel
theorem dX10_burns_61 : decode cX10_burns 61 = .ok (.iload_n 2, 1) := by decide +kernel
theorem dX10_burns_62 : decode cX10_burns 62 = .ok (.if_icmp .ge 86, 3) := by decide +kernel
theorem dX10_burns_65 : decode cX10_burns 65 = .ok (.aload_n 0, 1) := by decide +kernel
theorem dX10_burns_66 : decode cX10_burns 66 = .ok (.getfield 88, 3) := by decide +kernel
theorem dX10_burns_69 : decode cX10_burns 69 = .ok (.iload 5, 2) := by decide +kernel
theorem dX10_burns_71 : decode cX10_burns 71 = .ok (.invokestatic 91, 3) := by decide +kernel
theorem dX10_burns_74 : decode cX10_burns 74 = .ok (.ifCond .eq 68, 3) := by decide +kernel
theorem dX10_burns_77 : decode cX10_burns 77 = .ok (.aload_n 0, 1) := by decide +kernel
theorem dX10_burns_78 : decode cX10_burns 78 = .ok (.getfield 16, 3) := by decide +kernel
theorem dX10_burns_81 : decode cX10_burns 81 = .ok (.iload 5, 2) := by decide +kernel
theorem dX10_burns_83 : decode cX10_burns 83 = .ok (.aload_n 0, 1) := by decide +kernel
theorem dX10_burns_84 : decode cX10_burns 84 = .ok (.getfield 16, 3) := by decide +kernel
theorem dX10_burns_87 : decode cX10_burns 87 = .ok (.iload 5, 2) := by decide +kernel
theorem dX10_burns_89 : decode cX10_burns 89 = .ok (.iaload, 1) := by decide +kernel
theorem dX10_burns_90 : decode cX10_burns 90 = .ok (.aload_n 0, 1) := by decide +kernel
theorem dX10_burns_91 : decode cX10_burns 91 = .ok (.iload 5, 2) := by decide +kernel
theorem dX10_burns_93 : decode cX10_burns 93 = .ok (.invokevirtual 119, 3) := by decide +kernel
theorem dX10_burns_96 : decode cX10_burns 96 = .ok (.iadd, 1) := by decide +kernel
theorem dX10_burns_97 : decode cX10_burns 97 = .ok (.iload 4, 2) := by decide +kernel
theorem dX10_burns_99 : decode cX10_burns 99 = .ok (.iadd, 1) := by decide +kernel
theorem dX10_burns_100 : decode cX10_burns 100 = .ok (.sipush 999, 3) := by decide +kernel
theorem dX10_burns_103 : decode cX10_burns 103 = .ok (.invokestatic 122, 3) := by decide +kernel
theorem dX10_burns_106 : decode cX10_burns 106 = .ok (.iastore, 1) := by decide +kernel
theorem dX10_burns_107 : decode cX10_burns 107 = .ok (.aload_n 0, 1) := by decide +kernel
theorem dX10_burns_108 : decode cX10_burns 108 = .ok (.dup, 1) := by decide +kernel
theorem dX10_burns_109 : decode cX10_burns 109 = .ok (.getfield 88, 3) := by decide +kernel
theorem dX10_burns_112 : decode cX10_burns 112 = .ok (.aload_n 0, 1) := by decide +kernel
theorem dX10_burns_113 : decode cX10_burns 113 = .ok (.getfield 16, 3) := by decide +kernel
theorem dX10_burns_116 : decode cX10_burns 116 = .ok (.iload 5, 2) := by decide +kernel
theorem dX10_burns_118 : decode cX10_burns 118 = .ok (.iaload, 1) := by decide +kernel
theorem dX10_burns_119 : decode cX10_burns 119 = .ok (.aload_n 0, 1) := by decide +kernel
theorem dX10_burns_120 : decode cX10_burns 120 = .ok (.iload 5, 2) := by decide +kernel
theorem dX10_burns_122 : decode cX10_burns 122 = .ok (.invokevirtual 98, 3) := by decide +kernel
theorem dX10_burns_125 : decode cX10_burns 125 = .ok (.if_icmp .lt 12, 3) := by decide +kernel
theorem dX10_burns_128 : decode cX10_burns 128 = .ok (.iconst 1, 1) := by decide +kernel
theorem dX10_burns_129 : decode cX10_burns 129 = .ok (.iload 5, 2) := by decide +kernel
theorem dX10_burns_131 : decode cX10_burns 131 = .ok (.ishl, 1) := by decide +kernel
theorem dX10_burns_132 : decode cX10_burns 132 = .ok (.iconst (-1), 1) := by decide +kernel
theorem dX10_burns_133 : decode cX10_burns 133 = .ok (.ixor, 1) := by decide +kernel
theorem dX10_burns_134 : decode cX10_burns 134 = .ok (.goto 4, 3) := by decide +kernel
theorem dX10_burns_137 : decode cX10_burns 137 = .ok (.iconst (-1), 1) := by decide +kernel
theorem dX10_burns_138 : decode cX10_burns 138 = .ok (.iand, 1) := by decide +kernel
theorem dX10_burns_139 : decode cX10_burns 139 = .ok (.putfield 88, 3) := by decide +kernel
theorem dX10_burns_142 : decode cX10_burns 142 = .ok (.iinc 5 1, 3) := by decide +kernel
theorem dX10_burns_145 : decode cX10_burns 145 = .ok (.goto (-86), 3) := by decide +kernel
theorem dX10_burns_148 : decode cX10_burns 148 = .ok (.iconst 1, 1) := by decide +kernel
theorem dX10_burns_149 : decode cX10_burns 149 = .ok (.ireturn, 1) := by decide +kernel
theorem dX10_hourOn_0 : decode cX10_hourOn 0 = .ok (.aload_n 0, 1) := by decide +kernel
theorem dX10_hourOn_1 : decode cX10_hourOn 1 = .ok (.dup, 1) := by decide +kernel
theorem dX10_hourOn_2 : decode cX10_hourOn 2 = .ok (.getfield 105, 3) := by decide +kernel
theorem dX10_hourOn_5 : decode cX10_hourOn 5 = .ok (.iconst 1, 1) := by decide +kernel
theorem dX10_hourOn_6 : decode cX10_hourOn 6 = .ok (.iadd, 1) := by decide +kernel
theorem dX10_hourOn_7 : decode cX10_hourOn 7 = .ok (.putfield 105, 3) := by decide +kernel
theorem dX10_hourOn_10 : decode cX10_hourOn 10 = .ok (.aload_n 0, 1) := by decide +kernel
theorem dX10_hourOn_11 : decode cX10_hourOn 11 = .ok (.getfield 125, 3) := by decide +kernel
theorem dX10_hourOn_14 : decode cX10_hourOn 14 = .ok (.ifCond .ne 40, 3) := by decide +kernel
theorem dX10_hourOn_17 : decode cX10_hourOn 17 = .ok (.aload_n 0, 1) := by decide +kernel
theorem dX10_hourOn_18 : decode cX10_hourOn 18 = .ok (.iconst 0, 1) := by decide +kernel
theorem dX10_hourOn_19 : decode cX10_hourOn 19 = .ok (.aload_n 0, 1) := by decide +kernel
theorem dX10_hourOn_20 : decode cX10_hourOn 20 = .ok (.getfield 81, 3) := by decide +kernel
theorem dX10_hourOn_23 : decode cX10_hourOn 23 = .ok (.invokevirtual 128, 3) := by decide +kernel
theorem dX10_hourOn_26 : decode cX10_hourOn 26 = .ok (.istore_n 1, 1) := by decide +kernel
theorem dX10_hourOn_27 : decode cX10_hourOn 27 = .ok (.aload_n 0, 1) := by decide +kernel
theorem dX10_hourOn_28 : decode cX10_hourOn 28 = .ok (.aload_n 0, 1) := by decide +kernel
theorem dX10_hourOn_29 : decode cX10_hourOn 29 = .ok (.getfield 131, 3) := by decide +kernel
theorem dX10_hourOn_32 : decode cX10_hourOn 32 = .ok (.iload_n 1, 1) := by decide +kernel
theorem dX10_hourOn_33 : decode cX10_hourOn 33 = .ok (.ifCond .eq 7, 3) := by decide +kernel
theorem dX10_hourOn_36 : decode cX10_hourOn 36 = .ok (.iconst 1, 1) := by decide +kernel
theorem dX10_hourOn_37 : decode cX10_hourOn 37 = .ok (.goto 4, 3) := by decide +kernel
theorem dX10_hourOn_40 : decode cX10_hourOn 40 = .ok (.iconst 0, 1) := by decide +kernel
theorem dX10_hourOn_41 : decode cX10_hourOn 41 = .ok (.iadd, 1) := by decide +kernel
theorem dX10_hourOn_42 : decode cX10_hourOn 42 = .ok (.sipush 999, 3) := by decide +kernel
theorem dX10_hourOn_45 : decode cX10_hourOn 45 = .ok (.invokestatic 122, 3) := by decide +kernel
theorem dX10_hourOn_48 : decode cX10_hourOn 48 = .ok (.putfield 131, 3) := by decide +kernel
theorem dX10_hourOn_51 : decode cX10_hourOn 51 = .ok (.goto 38, 3) := by decide +kernel
theorem dX10_hourOn_54 : decode cX10_hourOn 54 = .ok (.aload_n 0, 1) := by decide +kernel
theorem dX10_hourOn_55 : decode cX10_hourOn 55 = .ok (.iconst 0, 1) := by decide +kernel
theorem dX10_hourOn_56 : decode cX10_hourOn 56 = .ok (.aload_n 0, 1) := by decide +kernel
theorem dX10_hourOn_57 : decode cX10_hourOn 57 = .ok (.getfield 125, 3) := by decide +kernel
theorem dX10_hourOn_60 : decode cX10_hourOn 60 = .ok (.invokevirtual 128, 3) := by decide +kernel
theorem dX10_hourOn_63 : decode cX10_hourOn 63 = .ok (.istore_n 1, 1) := by decide +kernel
theorem dX10_hourOn_64 : decode cX10_hourOn 64 = .ok (.aload_n 0, 1) := by decide +kernel
theorem dX10_hourOn_65 : decode cX10_hourOn 65 = .ok (.aload_n 0, 1) := by decide +kernel
theorem dX10_hourOn_66 : decode cX10_hourOn 66 = .ok (.getfield 125, 3) := by decide +kernel
theorem dX10_hourOn_69 : decode cX10_hourOn 69 = .ok (.aload_n 0, 1) := by decide +kernel
theorem dX10_hourOn_70 : decode cX10_hourOn 70 = .ok (.getfield 81, 3) := by decide +kernel
theorem dX10_hourOn_73 : decode cX10_hourOn 73 = .ok (.invokevirtual 128, 3) := by decide +kernel
theorem dX10_hourOn_76 : decode cX10_hourOn 76 = .ok (.ifCond .eq 11, 3) := by decide +kernel
theorem dX10_hourOn_79 : decode cX10_hourOn 79 = .ok (.iload_n 1, 1) := by decide +kernel
theorem dX10_hourOn_80 : decode cX10_hourOn 80 = .ok (.ifCond .eq 7, 3) := by decide +kernel
theorem dX10_hourOn_83 : decode cX10_hourOn 83 = .ok (.iconst 1, 1) := by decide +kernel
theorem dX10_hourOn_84 : decode cX10_hourOn 84 = .ok (.goto 4, 3) := by decide +kernel
theorem dX10_hourOn_87 : decode cX10_hourOn 87 = .ok (.iconst 0, 1) := by decide +kernel
theorem dX10_hourOn_88 : decode cX10_hourOn 88 = .ok (.istore_n 1, 1) := by decide +kernel
theorem dX10_hourOn_89 : decode cX10_hourOn 89 = .ok (.iconst 0, 1) := by decide +kernel
theorem dX10_hourOn_90 : decode cX10_hourOn 90 = .ok (.istore_n 2, 1) := by decide +kernel
theorem dX10_hourOn_91 : decode cX10_hourOn 91 = .ok (.iload_n 2, 1) := by decide +kernel
theorem dX10_hourOn_92 : decode cX10_hourOn 92 = .ok (.aload_n 0, 1) := by decide +kernel
theorem dX10_hourOn_93 : decode cX10_hourOn 93 = .ok (.getfield 81, 3) := by decide +kernel
theorem dX10_hourOn_96 : decode cX10_hourOn 96 = .ok (.if_icmp .ge 53, 3) := by decide +kernel
theorem dX10_hourOn_99 : decode cX10_hourOn 99 = .ok (.aload_n 0, 1) := by decide +kernel
theorem dX10_hourOn_100 : decode cX10_hourOn 100 = .ok (.dup, 1) := by decide +kernel
theorem dX10_hourOn_101 : decode cX10_hourOn 101 = .ok (.getfield 95, 3) := by decide +kernel
theorem dX10_hourOn_104 : decode cX10_hourOn 104 = .ok (.aload_n 0, 1) := by decide +kernel
theorem dX10_hourOn_105 : decode cX10_hourOn 105 = .ok (.getfield 7, 3) := by decide +kernel
theorem dX10_hourOn_108 : decode cX10_hourOn 108 = .ok (.iload_n 2, 1) := by decide +kernel
theorem dX10_hourOn_109 : decode cX10_hourOn 109 = .ok (.iaload, 1) := by decide +kernel
theorem dX10_hourOn_110 : decode cX10_hourOn 110 = .ok (.iconst 1, 1) := by decide +kernel
theorem dX10_hourOn_111 : decode cX10_hourOn 111 = .ok (.if_icmp .ne 27, 3) := by decide +kernel
theorem dX10_hourOn_114 : decode cX10_hourOn 114 = .ok (.aload_n 0, 1) := by decide +kernel
theorem dX10_hourOn_115 : decode cX10_hourOn 115 = .ok (.getfield 105, 3) := by decide +kernel
theorem dX10_hourOn_118 : decode cX10_hourOn 118 = .ok (.aload_n 0, 1) := by decide +kernel
theorem dX10_hourOn_119 : decode cX10_hourOn 119 = .ok (.getfield 13, 3) := by decide +kernel
theorem dX10_hourOn_122 : decode cX10_hourOn 122 = .ok (.iload_n 2, 1) := by decide +kernel
theorem dX10_hourOn_123 : decode cX10_hourOn 123 = .ok (.iaload, 1) := by decide +kernel
theorem dX10_hourOn_124 : decode cX10_hourOn 124 = .ok (.iconst 3, 1) := by decide +kernel
theorem dX10_hourOn_125 : decode cX10_hourOn 125 = .ok (.iadd, 1) := by decide +kernel
theorem dX10_hourOn_126 : decode cX10_hourOn 126 = .ok (.irem, 1) := by decide +kernel
theorem dX10_hourOn_127 : decode cX10_hourOn 127 = .ok (.ifCond .ne 11, 3) := by decide +kernel
theorem dX10_hourOn_130 : decode cX10_hourOn 130 = .ok (.iconst 1, 1) := by decide +kernel
theorem dX10_hourOn_131 : decode cX10_hourOn 131 = .ok (.iload_n 2, 1) := by decide +kernel
theorem dX10_hourOn_132 : decode cX10_hourOn 132 = .ok (.ishl, 1) := by decide +kernel
theorem dX10_hourOn_133 : decode cX10_hourOn 133 = .ok (.iconst (-1), 1) := by decide +kernel
theorem dX10_hourOn_134 : decode cX10_hourOn 134 = .ok (.ixor, 1) := by decide +kernel
theorem dX10_hourOn_135 : decode cX10_hourOn 135 = .ok (.goto 4, 3) := by decide +kernel
theorem dX10_hourOn_138 : decode cX10_hourOn 138 = .ok (.iconst (-1), 1) := by decide +kernel
theorem dX10_hourOn_139 : decode cX10_hourOn 139 = .ok (.iand, 1) := by decide +kernel
theorem dX10_hourOn_140 : decode cX10_hourOn 140 = .ok (.putfield 95, 3) := by decide +kernel
theorem dX10_hourOn_143 : decode cX10_hourOn 143 = .ok (.iinc 2 1, 3) := by decide +kernel
theorem dX10_hourOn_146 : decode cX10_hourOn 146 = .ok (.goto (-55), 3) := by decide +kernel
theorem dX10_hourOn_149 : decode cX10_hourOn 149 = .ok (.iload_n 1, 1) := by decide +kernel
theorem dX10_hourOn_150 : decode cX10_hourOn 150 = .ok (.ireturn, 1) := by decide +kernel
theorem dX10_goHours_0 : decode cX10_goHours 0 = .ok (.iconst 0, 1) := by decide +kernel
theorem dX10_goHours_1 : decode cX10_goHours 1 = .ok (.istore_n 2, 1) := by decide +kernel
theorem dX10_goHours_2 : decode cX10_goHours 2 = .ok (.iload_n 2, 1) := by decide +kernel
theorem dX10_goHours_3 : decode cX10_goHours 3 = .ok (.iload_n 1, 1) := by decide +kernel
theorem dX10_goHours_4 : decode cX10_goHours 4 = .ok (.if_icmp .ge 14, 3) := by decide +kernel
theorem dX10_goHours_7 : decode cX10_goHours 7 = .ok (.aload_n 0, 1) := by decide +kernel
theorem dX10_goHours_8 : decode cX10_goHours 8 = .ok (.invokevirtual 134, 3) := by decide +kernel
theorem dX10_goHours_11 : decode cX10_goHours 11 = .ok (.pop, 1) := by decide +kernel
theorem dX10_goHours_12 : decode cX10_goHours 12 = .ok (.iinc 2 1, 3) := by decide +kernel
theorem dX10_goHours_15 : decode cX10_goHours 15 = .ok (.goto (-13), 3) := by decide +kernel
theorem dX10_goHours_18 : decode cX10_goHours 18 = .ok (.return_, 1) := by decide +kernel
theorem dX10_allWorn_0 : decode cX10_allWorn 0 = .ok (.iconst 0, 1) := by decide +kernel
theorem dX10_allWorn_1 : decode cX10_allWorn 1 = .ok (.istore_n 1, 1) := by decide +kernel
theorem dX10_allWorn_2 : decode cX10_allWorn 2 = .ok (.iconst 0, 1) := by decide +kernel
theorem dX10_allWorn_3 : decode cX10_allWorn 3 = .ok (.istore_n 2, 1) := by decide +kernel
theorem dX10_allWorn_4 : decode cX10_allWorn 4 = .ok (.iload_n 2, 1) := by decide +kernel
theorem dX10_allWorn_5 : decode cX10_allWorn 5 = .ok (.aload_n 0, 1) := by decide +kernel
theorem dX10_allWorn_6 : decode cX10_allWorn 6 = .ok (.getfield 81, 3) := by decide +kernel
theorem dX10_allWorn_9 : decode cX10_allWorn 9 = .ok (.if_icmp .ge 18, 3) := by decide +kernel
theorem dX10_allWorn_12 : decode cX10_allWorn 12 = .ok (.iload_n 1, 1) := by decide +kernel
theorem dX10_allWorn_13 : decode cX10_allWorn 13 = .ok (.aload_n 0, 1) := by decide +kernel
theorem dX10_allWorn_14 : decode cX10_allWorn 14 = .ok (.getfield 16, 3) := by decide +kernel
theorem dX10_allWorn_17 : decode cX10_allWorn 17 = .ok (.iload_n 2, 1) := by decide +kernel
theorem dX10_allWorn_18 : decode cX10_allWorn 18 = .ok (.iaload, 1) := by decide +kernel
theorem dX10_allWorn_19 : decode cX10_allWorn 19 = .ok (.iadd, 1) := by decide +kernel
theorem dX10_allWorn_20 : decode cX10_allWorn 20 = .ok (.istore_n 1, 1) := by decide +kernel
theorem dX10_allWorn_21 : decode cX10_allWorn 21 = .ok (.iinc 2 1, 3) := by decide +kernel
theorem dX10_allWorn_24 : decode cX10_allWorn 24 = .ok (.goto (-20), 3) := by decide +kernel
theorem dX10_allWorn_27 : decode cX10_allWorn 27 = .ok (.iload_n 1, 1) := by decide +kernel
theorem dX10_allWorn_28 : decode cX10_allWorn 28 = .ok (.ireturn, 1) := by decide +kernel
theorem dX10_tookBy_0 : decode cX10_tookBy 0 = .ok (.iload_n 0, 1) := by decide +kernel
theorem dX10_tookBy_1 : decode cX10_tookBy 1 = .ok (.tableswitch 50 0 3 #[31, 33, 35, 41], 31) := by decide +kernel
theorem dX10_tookBy_32 : decode cX10_tookBy 32 = .ok (.iconst 2, 1) := by decide +kernel
theorem dX10_tookBy_33 : decode cX10_tookBy 33 = .ok (.ireturn, 1) := by decide +kernel
theorem dX10_tookBy_34 : decode cX10_tookBy 34 = .ok (.iconst 1, 1) := by decide +kernel
theorem dX10_tookBy_35 : decode cX10_tookBy 35 = .ok (.ireturn, 1) := by decide +kernel
theorem dX10_tookBy_36 : decode cX10_tookBy 36 = .ok (.iconst 3, 1) := by decide +kernel
theorem dX10_tookBy_37 : decode cX10_tookBy 37 = .ok (.iload_n 2, 1) := by decide +kernel
theorem dX10_tookBy_38 : decode cX10_tookBy 38 = .ok (.iadd, 1) := by decide +kernel
theorem dX10_tookBy_39 : decode cX10_tookBy 39 = .ok (.iload_n 1, 1) := by decide +kernel
theorem dX10_tookBy_40 : decode cX10_tookBy 40 = .ok (.isub, 1) := by decide +kernel
theorem dX10_tookBy_41 : decode cX10_tookBy 41 = .ok (.ireturn, 1) := by decide +kernel
theorem dX10_tookBy_42 : decode cX10_tookBy 42 = .ok (.bipush 6, 2) := by decide +kernel
theorem dX10_tookBy_44 : decode cX10_tookBy 44 = .ok (.iconst 2, 1) := by decide +kernel
theorem dX10_tookBy_45 : decode cX10_tookBy 45 = .ok (.iload_n 2, 1) := by decide +kernel
theorem dX10_tookBy_46 : decode cX10_tookBy 46 = .ok (.iload_n 1, 1) := by decide +kernel
theorem dX10_tookBy_47 : decode cX10_tookBy 47 = .ok (.isub, 1) := by decide +kernel
theorem dX10_tookBy_48 : decode cX10_tookBy 48 = .ok (.imul, 1) := by decide +kernel
theorem dX10_tookBy_49 : decode cX10_tookBy 49 = .ok (.iadd, 1) := by decide +kernel
theorem dX10_tookBy_50 : decode cX10_tookBy 50 = .ok (.ireturn, 1) := by decide +kernel
theorem dX10_tookBy_51 : decode cX10_tookBy 51 = .ok (.bipush 8, 2) := by decide +kernel
theorem dX10_tookBy_53 : decode cX10_tookBy 53 = .ok (.ireturn, 1) := by decide +kernel
theorem dX10_tellsBy_0 : decode cX10_tellsBy 0 = .ok (.aload_n 0, 1) := by decide +kernel
theorem dX10_tellsBy_1 : decode cX10_tellsBy 1 = .ok (.getfield 105, 3) := by decide +kernel
theorem dX10_tellsBy_4 : decode cX10_tellsBy 4 = .ok (.iconst 1, 1) := by decide +kernel
theorem dX10_tellsBy_5 : decode cX10_tellsBy 5 = .ok (.iadd, 1) := by decide +kernel
theorem dX10_tellsBy_6 : decode cX10_tellsBy 6 = .ok (.istore 4, 2) := by decide +kernel
theorem dX10_tellsBy_8 : decode cX10_tellsBy 8 = .ok (.iload_n 1, 1) := by decide +kernel
theorem dX10_tellsBy_9 : decode cX10_tellsBy 9 = .ok (.tableswitch 105 0 3 #[31, 37, 61, 72], 31) := by decide +kernel
theorem dX10_tellsBy_40 : decode cX10_tellsBy 40 = .ok (.aload_n 0, 1) := by decide +kernel
theorem dX10_tellsBy_41 : decode cX10_tellsBy 41 = .ok (.iload_n 2, 1) := by decide +kernel
theorem dX10_tellsBy_42 : decode cX10_tellsBy 42 = .ok (.invokevirtual 138, 3) := by decide +kernel
theorem dX10_tellsBy_45 : decode cX10_tellsBy 45 = .ok (.ireturn, 1) := by decide +kernel
theorem dX10_tellsBy_46 : decode cX10_tellsBy 46 = .ok (.aload_n 0, 1) := by decide +kernel
theorem dX10_tellsBy_47 : decode cX10_tellsBy 47 = .ok (.dup, 1) := by decide +kernel
theorem dX10_tellsBy_48 : decode cX10_tellsBy 48 = .ok (.getfield 95, 3) := by decide +kernel
theorem dX10_tellsBy_51 : decode cX10_tellsBy 51 = .ok (.iconst 1, 1) := by decide +kernel
theorem dX10_tellsBy_52 : decode cX10_tellsBy 52 = .ok (.iload_n 2, 1) := by decide +kernel
theorem dX10_tellsBy_53 : decode cX10_tellsBy 53 = .ok (.ishl, 1) := by decide +kernel
theorem dX10_tellsBy_54 : decode cX10_tellsBy 54 = .ok (.ior, 1) := by decide +kernel
theorem dX10_tellsBy_55 : decode cX10_tellsBy 55 = .ok (.putfield 95, 3) := by decide +kernel
theorem dX10_tellsBy_58 : decode cX10_tellsBy 58 = .ok (.aload_n 0, 1) := by decide +kernel
theorem dX10_tellsBy_59 : decode cX10_tellsBy 59 = .ok (.iconst 0, 1) := by decide +kernel
theorem dX10_tellsBy_60 : decode cX10_tellsBy 60 = .ok (.aload_n 0, 1) := by decide +kernel
theorem dX10_tellsBy_61 : decode cX10_tellsBy 61 = .ok (.getfield 81, 3) := by decide +kernel
theorem dX10_tellsBy_64 : decode cX10_tellsBy 64 = .ok (.iload 4, 2) := by decide +kernel
theorem dX10_tellsBy_66 : decode cX10_tellsBy 66 = .ok (.invokevirtual 108, 3) := by decide +kernel
theorem dX10_tellsBy_69 : decode cX10_tellsBy 69 = .ok (.ireturn, 1) := by decide +kernel
theorem dX10_tellsBy_70 : decode cX10_tellsBy 70 = .ok (.aload_n 0, 1) := by decide +kernel
theorem dX10_tellsBy_71 : decode cX10_tellsBy 71 = .ok (.iload_n 2, 1) := by decide +kernel
theorem dX10_tellsBy_72 : decode cX10_tellsBy 72 = .ok (.iload_n 3, 1) := by decide +kernel
theorem dX10_tellsBy_73 : decode cX10_tellsBy 73 = .ok (.iconst 1, 1) := by decide +kernel
theorem dX10_tellsBy_74 : decode cX10_tellsBy 74 = .ok (.iadd, 1) := by decide +kernel
theorem dX10_tellsBy_75 : decode cX10_tellsBy 75 = .ok (.iload 4, 2) := by decide +kernel
theorem dX10_tellsBy_77 : decode cX10_tellsBy 77 = .ok (.invokevirtual 108, 3) := by decide +kernel
theorem dX10_tellsBy_80 : decode cX10_tellsBy 80 = .ok (.ireturn, 1) := by decide +kernel
theorem dX10_tellsBy_81 : decode cX10_tellsBy 81 = .ok (.aload_n 0, 1) := by decide +kernel
theorem dX10_tellsBy_82 : decode cX10_tellsBy 82 = .ok (.iconst 0, 1) := by decide +kernel
theorem dX10_tellsBy_83 : decode cX10_tellsBy 83 = .ok (.iload_n 2, 1) := by decide +kernel
theorem dX10_tellsBy_84 : decode cX10_tellsBy 84 = .ok (.iload 4, 2) := by decide +kernel
theorem dX10_tellsBy_86 : decode cX10_tellsBy 86 = .ok (.invokevirtual 108, 3) := by decide +kernel
theorem dX10_tellsBy_89 : decode cX10_tellsBy 89 = .ok (.ifCond .eq 23, 3) := by decide +kernel
theorem dX10_tellsBy_92 : decode cX10_tellsBy 92 = .ok (.aload_n 0, 1) := by decide +kernel
theorem dX10_tellsBy_93 : decode cX10_tellsBy 93 = .ok (.iload_n 3, 1) := by decide +kernel
theorem dX10_tellsBy_94 : decode cX10_tellsBy 94 = .ok (.iconst 1, 1) := by decide +kernel
theorem dX10_tellsBy_95 : decode cX10_tellsBy 95 = .ok (.iadd, 1) := by decide +kernel
theorem dX10_tellsBy_96 : decode cX10_tellsBy 96 = .ok (.aload_n 0, 1) := by decide +kernel
theorem dX10_tellsBy_97 : decode cX10_tellsBy 97 = .ok (.getfield 81, 3) := by decide +kernel
theorem dX10_tellsBy_100 : decode cX10_tellsBy 100 = .ok (.iload 4, 2) := by decide +kernel
theorem dX10_tellsBy_102 : decode cX10_tellsBy 102 = .ok (.invokevirtual 108, 3) := by decide +kernel
theorem dX10_tellsBy_105 : decode cX10_tellsBy 105 = .ok (.ifCond .eq 7, 3) := by decide +kernel
theorem dX10_tellsBy_108 : decode cX10_tellsBy 108 = .ok (.iconst 1, 1) := by decide +kernel
theorem dX10_tellsBy_109 : decode cX10_tellsBy 109 = .ok (.goto 4, 3) := by decide +kernel
theorem dX10_tellsBy_112 : decode cX10_tellsBy 112 = .ok (.iconst 0, 1) := by decide +kernel
theorem dX10_tellsBy_113 : decode cX10_tellsBy 113 = .ok (.ireturn, 1) := by decide +kernel
theorem dX10_tellsBy_114 : decode cX10_tellsBy 114 = .ok (.aload_n 0, 1) := by decide +kernel
theorem dX10_tellsBy_115 : decode cX10_tellsBy 115 = .ok (.iconst 0, 1) := by decide +kernel
theorem dX10_tellsBy_116 : decode cX10_tellsBy 116 = .ok (.iload_n 2, 1) := by decide +kernel
theorem dX10_tellsBy_117 : decode cX10_tellsBy 117 = .ok (.iload 4, 2) := by decide +kernel
theorem dX10_tellsBy_119 : decode cX10_tellsBy 119 = .ok (.invokevirtual 108, 3) := by decide +kernel
theorem dX10_tellsBy_122 : decode cX10_tellsBy 122 = .ok (.ifCond .eq 23, 3) := by decide +kernel
theorem dX10_tellsBy_125 : decode cX10_tellsBy 125 = .ok (.aload_n 0, 1) := by decide +kernel
theorem dX10_tellsBy_126 : decode cX10_tellsBy 126 = .ok (.iload_n 2, 1) := by decide +kernel
theorem dX10_tellsBy_127 : decode cX10_tellsBy 127 = .ok (.iconst 1, 1) := by decide +kernel
theorem dX10_tellsBy_128 : decode cX10_tellsBy 128 = .ok (.iadd, 1) := by decide +kernel
theorem dX10_tellsBy_129 : decode cX10_tellsBy 129 = .ok (.aload_n 0, 1) := by decide +kernel
theorem dX10_tellsBy_130 : decode cX10_tellsBy 130 = .ok (.getfield 81, 3) := by decide +kernel
theorem dX10_tellsBy_133 : decode cX10_tellsBy 133 = .ok (.iload 4, 2) := by decide +kernel
theorem dX10_tellsBy_135 : decode cX10_tellsBy 135 = .ok (.invokevirtual 108, 3) := by decide +kernel
theorem dX10_tellsBy_138 : decode cX10_tellsBy 138 = .ok (.ifCond .eq 7, 3) := by decide +kernel
theorem dX10_tellsBy_141 : decode cX10_tellsBy 141 = .ok (.iconst 1, 1) := by decide +kernel
theorem dX10_tellsBy_142 : decode cX10_tellsBy 142 = .ok (.goto 4, 3) := by decide +kernel
theorem dX10_tellsBy_145 : decode cX10_tellsBy 145 = .ok (.iconst 0, 1) := by decide +kernel
theorem dX10_tellsBy_146 : decode cX10_tellsBy 146 = .ok (.ireturn, 1) := by decide +kernel
theorem dX10_usedOn_0 : decode cX10_usedOn 0 = .ok (.aload_n 0, 1) := by decide +kernel
theorem dX10_usedOn_1 : decode cX10_usedOn 1 = .ok (.aload_n 0, 1) := by decide +kernel
theorem dX10_usedOn_2 : decode cX10_usedOn 2 = .ok (.getfield 142, 3) := by decide +kernel
theorem dX10_usedOn_5 : decode cX10_usedOn 5 = .ok (.iload_n 1, 1) := by decide +kernel
theorem dX10_usedOn_6 : decode cX10_usedOn 6 = .ok (.iload_n 2, 1) := by decide +kernel
theorem dX10_usedOn_7 : decode cX10_usedOn 7 = .ok (.iload_n 3, 1) := by decide +kernel
theorem dX10_usedOn_8 : decode cX10_usedOn 8 = .ok (.invokestatic 145, 3) := by decide +kernel
theorem dX10_usedOn_11 : decode cX10_usedOn 11 = .ok (.iadd, 1) := by decide +kernel
theorem dX10_usedOn_12 : decode cX10_usedOn 12 = .ok (.aload_n 0, 1) := by decide +kernel
theorem dX10_usedOn_13 : decode cX10_usedOn 13 = .ok (.getfield 149, 3) := by decide +kernel
theorem dX10_usedOn_16 : decode cX10_usedOn 16 = .ok (.iload_n 2, 1) := by decide +kernel
theorem dX10_usedOn_17 : decode cX10_usedOn 17 = .ok (.invokestatic 152, 3) := by decide +kernel
theorem dX10_usedOn_20 : decode cX10_usedOn 20 = .ok (.iadd, 1) := by decide +kernel
theorem dX10_usedOn_21 : decode cX10_usedOn 21 = .ok (.sipush 9999, 3) := by decide +kernel
theorem dX10_usedOn_24 : decode cX10_usedOn 24 = .ok (.invokestatic 122, 3) := by decide +kernel
theorem dX10_usedOn_27 : decode cX10_usedOn 27 = .ok (.putfield 142, 3) := by decide +kernel
theorem dX10_usedOn_30 : decode cX10_usedOn 30 = .ok (.aload_n 0, 1) := by decide +kernel
theorem dX10_usedOn_31 : decode cX10_usedOn 31 = .ok (.iload_n 1, 1) := by decide +kernel
theorem dX10_usedOn_32 : decode cX10_usedOn 32 = .ok (.iconst 2, 1) := by decide +kernel
theorem dX10_usedOn_33 : decode cX10_usedOn 33 = .ok (.if_icmp .eq 8, 3) := by decide +kernel
theorem dX10_usedOn_36 : decode cX10_usedOn 36 = .ok (.iload_n 1, 1) := by decide +kernel
theorem dX10_usedOn_37 : decode cX10_usedOn 37 = .ok (.iconst 3, 1) := by decide +kernel
theorem dX10_usedOn_38 : decode cX10_usedOn 38 = .ok (.if_icmp .ne 7, 3) := by decide +kernel
theorem dX10_usedOn_41 : decode cX10_usedOn 41 = .ok (.iload_n 3, 1) := by decide +kernel
theorem dX10_usedOn_42 : decode cX10_usedOn 42 = .ok (.goto 4, 3) := by decide +kernel
theorem dX10_usedOn_45 : decode cX10_usedOn 45 = .ok (.iload_n 2, 1) := by decide +kernel
theorem dX10_usedOn_46 : decode cX10_usedOn 46 = .ok (.putfield 149, 3) := by decide +kernel
theorem dX10_usedOn_49 : decode cX10_usedOn 49 = .ok (.aload_n 0, 1) := by decide +kernel
theorem dX10_usedOn_50 : decode cX10_usedOn 50 = .ok (.iload_n 1, 1) := by decide +kernel
theorem dX10_usedOn_51 : decode cX10_usedOn 51 = .ok (.iload_n 2, 1) := by decide +kernel
theorem dX10_usedOn_52 : decode cX10_usedOn 52 = .ok (.iload_n 3, 1) := by decide +kernel
theorem dX10_usedOn_53 : decode cX10_usedOn 53 = .ok (.invokevirtual 155, 3) := by decide +kernel
theorem dX10_usedOn_56 : decode cX10_usedOn 56 = .ok (.ifCond .eq 7, 3) := by decide +kernel
theorem dX10_usedOn_59 : decode cX10_usedOn 59 = .ok (.iconst 1, 1) := by decide +kernel
theorem dX10_usedOn_60 : decode cX10_usedOn 60 = .ok (.goto 4, 3) := by decide +kernel
theorem dX10_usedOn_63 : decode cX10_usedOn 63 = .ok (.iconst 0, 1) := by decide +kernel
theorem dX10_usedOn_64 : decode cX10_usedOn 64 = .ok (.ireturn, 1) := by decide +kernel
theorem dX10_becomesSpare_0 : decode cX10_becomesSpare 0 = .ok (.aload_n 0, 1) := by decide +kernel
theorem dX10_becomesSpare_1 : decode cX10_becomesSpare 1 = .ok (.getfield 7, 3) := by decide +kernel
theorem dX10_becomesSpare_4 : decode cX10_becomesSpare 4 = .ok (.iload_n 1, 1) := by decide +kernel
theorem dX10_becomesSpare_5 : decode cX10_becomesSpare 5 = .ok (.bipush 6, 2) := by decide +kernel
theorem dX10_becomesSpare_7 : decode cX10_becomesSpare 7 = .ok (.iastore, 1) := by decide +kernel
theorem dX10_becomesSpare_8 : decode cX10_becomesSpare 8 = .ok (.aload_n 0, 1) := by decide +kernel
theorem dX10_becomesSpare_9 : decode cX10_becomesSpare 9 = .ok (.getfield 13, 3) := by decide +kernel
theorem dX10_becomesSpare_12 : decode cX10_becomesSpare 12 = .ok (.iload_n 1, 1) := by decide +kernel
theorem dX10_becomesSpare_13 : decode cX10_becomesSpare 13 = .ok (.iconst 5, 1) := by decide +kernel
theorem dX10_becomesSpare_14 : decode cX10_becomesSpare 14 = .ok (.iastore, 1) := by decide +kernel
theorem dX10_becomesSpare_15 : decode cX10_becomesSpare 15 = .ok (.aload_n 0, 1) := by decide +kernel
theorem dX10_becomesSpare_16 : decode cX10_becomesSpare 16 = .ok (.getfield 16, 3) := by decide +kernel
theorem dX10_becomesSpare_19 : decode cX10_becomesSpare 19 = .ok (.iload_n 1, 1) := by decide +kernel
theorem dX10_becomesSpare_20 : decode cX10_becomesSpare 20 = .ok (.iconst 0, 1) := by decide +kernel
theorem dX10_becomesSpare_21 : decode cX10_becomesSpare 21 = .ok (.iastore, 1) := by decide +kernel
theorem dX10_becomesSpare_22 : decode cX10_becomesSpare 22 = .ok (.aload_n 0, 1) := by decide +kernel
theorem dX10_becomesSpare_23 : decode cX10_becomesSpare 23 = .ok (.dup, 1) := by decide +kernel
theorem dX10_becomesSpare_24 : decode cX10_becomesSpare 24 = .ok (.getfield 88, 3) := by decide +kernel
theorem dX10_becomesSpare_27 : decode cX10_becomesSpare 27 = .ok (.iconst 1, 1) := by decide +kernel
theorem dX10_becomesSpare_28 : decode cX10_becomesSpare 28 = .ok (.iload_n 1, 1) := by decide +kernel
theorem dX10_becomesSpare_29 : decode cX10_becomesSpare 29 = .ok (.ishl, 1) := by decide +kernel
theorem dX10_becomesSpare_30 : decode cX10_becomesSpare 30 = .ok (.ior, 1) := by decide +kernel
theorem dX10_becomesSpare_31 : decode cX10_becomesSpare 31 = .ok (.putfield 88, 3) := by decide +kernel
theorem dX10_becomesSpare_34 : decode cX10_becomesSpare 34 = .ok (.aload_n 0, 1) := by decide +kernel
theorem dX10_becomesSpare_35 : decode cX10_becomesSpare 35 = .ok (.dup, 1) := by decide +kernel
theorem dX10_becomesSpare_36 : decode cX10_becomesSpare 36 = .ok (.getfield 95, 3) := by decide +kernel
theorem dX10_becomesSpare_39 : decode cX10_becomesSpare 39 = .ok (.iconst 1, 1) := by decide +kernel
theorem dX10_becomesSpare_40 : decode cX10_becomesSpare 40 = .ok (.iload_n 1, 1) := by decide +kernel
theorem dX10_becomesSpare_41 : decode cX10_becomesSpare 41 = .ok (.ishl, 1) := by decide +kernel
theorem dX10_becomesSpare_42 : decode cX10_becomesSpare 42 = .ok (.ior, 1) := by decide +kernel
theorem dX10_becomesSpare_43 : decode cX10_becomesSpare 43 = .ok (.putfield 95, 3) := by decide +kernel
theorem dX10_becomesSpare_46 : decode cX10_becomesSpare 46 = .ok (.return_, 1) := by decide +kernel
theorem dX10_twisted_0 : decode cX10_twisted 0 = .ok (.bipush 8, 2) := by decide +kernel
theorem dX10_twisted_2 : decode cX10_twisted 2 = .ok (.aload_n 0, 1) := by decide +kernel
theorem dX10_twisted_3 : decode cX10_twisted 3 = .ok (.getfield 149, 3) := by decide +kernel
theorem dX10_twisted_6 : decode cX10_twisted 6 = .ok (.iload_n 1, 1) := by decide +kernel
theorem dX10_twisted_7 : decode cX10_twisted 7 = .ok (.invokestatic 152, 3) := by decide +kernel
theorem dX10_twisted_10 : decode cX10_twisted 10 = .ok (.iadd, 1) := by decide +kernel
theorem dX10_twisted_11 : decode cX10_twisted 11 = .ok (.istore_n 2, 1) := by decide +kernel
theorem dX10_twisted_12 : decode cX10_twisted 12 = .ok (.aload_n 0, 1) := by decide +kernel
theorem dX10_twisted_13 : decode cX10_twisted 13 = .ok (.aload_n 0, 1) := by decide +kernel
theorem dX10_twisted_14 : decode cX10_twisted 14 = .ok (.getfield 142, 3) := by decide +kernel
theorem dX10_twisted_17 : decode cX10_twisted 17 = .ok (.iload_n 2, 1) := by decide +kernel
theorem dX10_twisted_18 : decode cX10_twisted 18 = .ok (.iadd, 1) := by decide +kernel
theorem dX10_twisted_19 : decode cX10_twisted 19 = .ok (.sipush 9999, 3) := by decide +kernel
theorem dX10_twisted_22 : decode cX10_twisted 22 = .ok (.invokestatic 122, 3) := by decide +kernel
theorem dX10_twisted_25 : decode cX10_twisted 25 = .ok (.putfield 142, 3) := by decide +kernel
theorem dX10_twisted_28 : decode cX10_twisted 28 = .ok (.aload_n 0, 1) := by decide +kernel
theorem dX10_twisted_29 : decode cX10_twisted 29 = .ok (.iload_n 1, 1) := by decide +kernel
theorem dX10_twisted_30 : decode cX10_twisted 30 = .ok (.putfield 149, 3) := by decide +kernel
theorem dX10_twisted_33 : decode cX10_twisted 33 = .ok (.aload_n 0, 1) := by decide +kernel
theorem dX10_twisted_34 : decode cX10_twisted 34 = .ok (.dup, 1) := by decide +kernel
theorem dX10_twisted_35 : decode cX10_twisted 35 = .ok (.getfield 19, 3) := by decide +kernel
theorem dX10_twisted_38 : decode cX10_twisted 38 = .ok (.iconst 1, 1) := by decide +kernel
theorem dX10_twisted_39 : decode cX10_twisted 39 = .ok (.isub, 1) := by decide +kernel
theorem dX10_twisted_40 : decode cX10_twisted 40 = .ok (.putfield 19, 3) := by decide +kernel
theorem dX10_twisted_43 : decode cX10_twisted 43 = .ok (.aload_n 0, 1) := by decide +kernel
theorem dX10_twisted_44 : decode cX10_twisted 44 = .ok (.iload_n 1, 1) := by decide +kernel
theorem dX10_twisted_45 : decode cX10_twisted 45 = .ok (.invokevirtual 158, 3) := by decide +kernel
theorem dX10_twisted_48 : decode cX10_twisted 48 = .ok (.iload_n 2, 1) := by decide +kernel
theorem dX10_twisted_49 : decode cX10_twisted 49 = .ok (.ireturn, 1) := by decide +kernel
theorem dX10_here_0 : decode cX10_here 0 = .ok (.aload_n 0, 1) := by decide +kernel
theorem dX10_here_1 : decode cX10_here 1 = .ok (.getfield 162, 3) := by decide +kernel
theorem dX10_here_4 : decode cX10_here 4 = .ok (.aload_n 0, 1) := by decide +kernel
theorem dX10_here_5 : decode cX10_here 5 = .ok (.getfield 38, 3) := by decide +kernel
theorem dX10_here_8 : decode cX10_here 8 = .ok (.aload_n 0, 1) := by decide +kernel
theorem dX10_here_9 : decode cX10_here 9 = .ok (.getfield 165, 3) := by decide +kernel
theorem dX10_here_12 : decode cX10_here 12 = .ok (.iaload, 1) := by decide +kernel
theorem dX10_here_13 : decode cX10_here 13 = .ok (.if_icmp .ge 24, 3) := by decide +kernel
theorem dX10_here_16 : decode cX10_here 16 = .ok (.aload_n 0, 1) := by decide +kernel
theorem dX10_here_17 : decode cX10_here 17 = .ok (.getfield 41, 3) := by decide +kernel
theorem dX10_here_20 : decode cX10_here 20 = .ok (.bipush 100, 2) := by decide +kernel
theorem dX10_here_22 : decode cX10_here 22 = .ok (.aload_n 0, 1) := by decide +kernel
theorem dX10_here_23 : decode cX10_here 23 = .ok (.getfield 165, 3) := by decide +kernel
theorem dX10_here_26 : decode cX10_here 26 = .ok (.imul, 1) := by decide +kernel
theorem dX10_here_27 : decode cX10_here 27 = .ok (.aload_n 0, 1) := by decide +kernel
theorem dX10_here_28 : decode cX10_here 28 = .ok (.getfield 162, 3) := by decide +kernel
theorem dX10_here_31 : decode cX10_here 31 = .ok (.iadd, 1) := by decide +kernel
theorem dX10_here_32 : decode cX10_here 32 = .ok (.laload, 1) := by decide +kernel
theorem dX10_here_33 : decode cX10_here 33 = .ok (.l2i, 1) := by decide +kernel
theorem dX10_here_34 : decode cX10_here 34 = .ok (.goto 6, 3) := by decide +kernel
theorem dX10_here_37 : decode cX10_here 37 = .ok (.sipush (-999), 3) := by decide +kernel
theorem dX10_here_40 : decode cX10_here 40 = .ok (.ireturn, 1) := by decide +kernel
theorem dX10_readDigits_0 : decode cX10_readDigits 0 = .ok (.iconst 0, 1) := by decide +kernel
theorem dX10_readDigits_1 : decode cX10_readDigits 1 = .ok (.istore_n 2, 1) := by decide +kernel
theorem dX10_readDigits_2 : decode cX10_readDigits 2 = .ok (.iconst 0, 1) := by decide +kernel
theorem dX10_readDigits_3 : decode cX10_readDigits 3 = .ok (.istore_n 3, 1) := by decide +kernel
theorem dX10_readDigits_4 : decode cX10_readDigits 4 = .ok (.iload_n 3, 1) := by decide +kernel
theorem dX10_readDigits_5 : decode cX10_readDigits 5 = .ok (.iload_n 1, 1) := by decide +kernel
theorem dX10_readDigits_6 : decode cX10_readDigits 6 = .ok (.if_icmp .ge 87, 3) := by decide +kernel
theorem dX10_readDigits_9 : decode cX10_readDigits 9 = .ok (.aload_n 0, 1) := by decide +kernel
theorem dX10_readDigits_10 : decode cX10_readDigits 10 = .ok (.aload_n 0, 1) := by decide +kernel
theorem dX10_readDigits_11 : decode cX10_readDigits 11 = .ok (.getfield 168, 3) := by decide +kernel
theorem dX10_readDigits_14 : decode cX10_readDigits 14 = .ok (.ifCond .ne 20, 3) := by decide +kernel
theorem dX10_readDigits_17 : decode cX10_readDigits 17 = .ok (.aload_n 0, 1) := by decide +kernel
theorem dX10_readDigits_18 : decode cX10_readDigits 18 = .ok (.invokevirtual 172, 3) := by decide +kernel
theorem dX10_readDigits_21 : decode cX10_readDigits 21 = .ok (.i2l, 1) := by decide +kernel
theorem dX10_readDigits_22 : decode cX10_readDigits 22 = .ok (.ldc2_w 176, 3) := by decide +kernel
theorem dX10_readDigits_25 : decode cX10_readDigits 25 = .ok (.ldc2_w 178, 3) := by decide +kernel
theorem dX10_readDigits_28 : decode cX10_readDigits 28 = .ok (.invokestatic 84, 3) := by decide +kernel
theorem dX10_readDigits_31 : decode cX10_readDigits 31 = .ok (.ifCond .ne 7, 3) := by decide +kernel
theorem dX10_readDigits_34 : decode cX10_readDigits 34 = .ok (.iconst 1, 1) := by decide +kernel
theorem dX10_readDigits_35 : decode cX10_readDigits 35 = .ok (.goto 4, 3) := by decide +kernel
theorem dX10_readDigits_38 : decode cX10_readDigits 38 = .ok (.iconst 0, 1) := by decide +kernel
theorem dX10_readDigits_39 : decode cX10_readDigits 39 = .ok (.putfield 168, 3) := by decide +kernel
theorem dX10_readDigits_42 : decode cX10_readDigits 42 = .ok (.aload_n 0, 1) := by decide +kernel
theorem dX10_readDigits_43 : decode cX10_readDigits 43 = .ok (.getfield 168, 3) := by decide +kernel
theorem dX10_readDigits_46 : decode cX10_readDigits 46 = .ok (.ifCond .eq 7, 3) := by decide +kernel
theorem dX10_readDigits_49 : decode cX10_readDigits 49 = .ok (.iconst 0, 1) := by decide +kernel
theorem dX10_readDigits_50 : decode cX10_readDigits 50 = .ok (.goto 15, 3) := by decide +kernel
theorem dX10_readDigits_53 : decode cX10_readDigits 53 = .ok (.bipush 10, 2) := by decide +kernel
theorem dX10_readDigits_55 : decode cX10_readDigits 55 = .ok (.iload_n 2, 1) := by decide +kernel
theorem dX10_readDigits_56 : decode cX10_readDigits 56 = .ok (.imul, 1) := by decide +kernel
theorem dX10_readDigits_57 : decode cX10_readDigits 57 = .ok (.aload_n 0, 1) := by decide +kernel
theorem dX10_readDigits_58 : decode cX10_readDigits 58 = .ok (.invokevirtual 172, 3) := by decide +kernel
theorem dX10_readDigits_61 : decode cX10_readDigits 61 = .ok (.iadd, 1) := by decide +kernel
theorem dX10_readDigits_62 : decode cX10_readDigits 62 = .ok (.bipush 48, 2) := by decide +kernel
theorem dX10_readDigits_64 : decode cX10_readDigits 64 = .ok (.isub, 1) := by decide +kernel
theorem dX10_readDigits_65 : decode cX10_readDigits 65 = .ok (.istore_n 2, 1) := by decide +kernel
theorem dX10_readDigits_66 : decode cX10_readDigits 66 = .ok (.aload_n 0, 1) := by decide +kernel
theorem dX10_readDigits_67 : decode cX10_readDigits 67 = .ok (.dup, 1) := by decide +kernel
theorem dX10_readDigits_68 : decode cX10_readDigits 68 = .ok (.getfield 162, 3) := by decide +kernel
theorem dX10_readDigits_71 : decode cX10_readDigits 71 = .ok (.aload_n 0, 1) := by decide +kernel
theorem dX10_readDigits_72 : decode cX10_readDigits 72 = .ok (.getfield 168, 3) := by decide +kernel
theorem dX10_readDigits_75 : decode cX10_readDigits 75 = .ok (.ifCond .eq 7, 3) := by decide +kernel
theorem dX10_readDigits_78 : decode cX10_readDigits 78 = .ok (.iconst 0, 1) := by decide +kernel
theorem dX10_readDigits_79 : decode cX10_readDigits 79 = .ok (.goto 4, 3) := by decide +kernel
theorem dX10_readDigits_82 : decode cX10_readDigits 82 = .ok (.iconst 1, 1) := by decide +kernel
theorem dX10_readDigits_83 : decode cX10_readDigits 83 = .ok (.iadd, 1) := by decide +kernel
theorem dX10_readDigits_84 : decode cX10_readDigits 84 = .ok (.putfield 162, 3) := by decide +kernel
theorem dX10_readDigits_87 : decode cX10_readDigits 87 = .ok (.iinc 3 1, 3) := by decide +kernel
theorem dX10_readDigits_90 : decode cX10_readDigits 90 = .ok (.goto (-86), 3) := by decide +kernel
theorem dX10_readDigits_93 : decode cX10_readDigits 93 = .ok (.iload_n 2, 1) := by decide +kernel
