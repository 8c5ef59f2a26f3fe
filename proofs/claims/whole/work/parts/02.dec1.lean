theorem dX0_hoursTillOut_0 : decode cX0_hoursTillOut 0 = .ok (.aload_n 0, 1) := by decide +kernel
theorem dX0_hoursTillOut_1 : decode cX0_hoursTillOut 1 = .ok (.iload_n 1, 1) := by decide +kernel
theorem dX0_hoursTillOut_2 : decode cX0_hoursTillOut 2 = .ok (.invokevirtual 9, 3) := by decide +kernel
theorem dX0_hoursTillOut_5 : decode cX0_hoursTillOut 5 = .ok (.ifCond .ne 5, 3) := by decide +kernel
theorem dX0_hoursTillOut_8 : decode cX0_hoursTillOut 8 = .ok (.iconst 0, 1) := by decide +kernel
theorem dX0_hoursTillOut_9 : decode cX0_hoursTillOut 9 = .ok (.ireturn, 1) := by decide +kernel
theorem dX0_hoursTillOut_10 : decode cX0_hoursTillOut 10 = .ok (.iconst 1, 1) := by decide +kernel
theorem dX0_hoursTillOut_11 : decode cX0_hoursTillOut 11 = .ok (.istore_n 2, 1) := by decide +kernel
theorem dX0_hoursTillOut_12 : decode cX0_hoursTillOut 12 = .ok (.iload_n 2, 1) := by decide +kernel
theorem dX0_hoursTillOut_13 : decode cX0_hoursTillOut 13 = .ok (.bipush 60, 2) := by decide +kernel
theorem dX0_hoursTillOut_15 : decode cX0_hoursTillOut 15 = .ok (.if_icmp .gt 25, 3) := by decide +kernel
theorem dX0_hoursTillOut_18 : decode cX0_hoursTillOut 18 = .ok (.aload_n 0, 1) := by decide +kernel
theorem dX0_hoursTillOut_19 : decode cX0_hoursTillOut 19 = .ok (.iconst 1, 1) := by decide +kernel
theorem dX0_hoursTillOut_20 : decode cX0_hoursTillOut 20 = .ok (.invokevirtual 15, 3) := by decide +kernel
theorem dX0_hoursTillOut_23 : decode cX0_hoursTillOut 23 = .ok (.pop, 1) := by decide +kernel
theorem dX0_hoursTillOut_24 : decode cX0_hoursTillOut 24 = .ok (.aload_n 0, 1) := by decide +kernel
theorem dX0_hoursTillOut_25 : decode cX0_hoursTillOut 25 = .ok (.iload_n 1, 1) := by decide +kernel
theorem dX0_hoursTillOut_26 : decode cX0_hoursTillOut 26 = .ok (.invokevirtual 9, 3) := by decide +kernel
theorem dX0_hoursTillOut_29 : decode cX0_hoursTillOut 29 = .ok (.ifCond .ne 5, 3) := by decide +kernel
theorem dX0_hoursTillOut_32 : decode cX0_hoursTillOut 32 = .ok (.iload_n 2, 1) := by decide +kernel
theorem dX0_hoursTillOut_33 : decode cX0_hoursTillOut 33 = .ok (.ireturn, 1) := by decide +kernel
theorem dX0_hoursTillOut_34 : decode cX0_hoursTillOut 34 = .ok (.iinc 2 1, 3) := by decide +kernel
theorem dX0_hoursTillOut_37 : decode cX0_hoursTillOut 37 = .ok (.goto (-25), 3) := by decide +kernel
theorem dX0_hoursTillOut_40 : decode cX0_hoursTillOut 40 = .ok (.bipush (-4), 2) := by decide +kernel
theorem dX0_hoursTillOut_42 : decode cX0_hoursTillOut 42 = .ok (.ireturn, 1) := by decide +kernel
theorem dX0_nextOut_0 : decode cX0_nextOut 0 = .ok (.aload_n 0, 1) := by decide +kernel
theorem dX0_nextOut_1 : decode cX0_nextOut 1 = .ok (.getfield 18, 3) := by decide +kernel
theorem dX0_nextOut_4 : decode cX0_nextOut 4 = .ok (.istore_n 1, 1) := by decide +kernel
theorem dX0_nextOut_5 : decode cX0_nextOut 5 = .ok (.iconst 0, 1) := by decide +kernel
theorem dX0_nextOut_6 : decode cX0_nextOut 6 = .ok (.istore_n 2, 1) := by decide +kernel
theorem dX0_nextOut_7 : decode cX0_nextOut 7 = .ok (.iload_n 2, 1) := by decide +kernel
theorem dX0_nextOut_8 : decode cX0_nextOut 8 = .ok (.bipush 60, 2) := by decide +kernel
theorem dX0_nextOut_10 : decode cX0_nextOut 10 = .ok (.if_icmp .ge 33, 3) := by decide +kernel
theorem dX0_nextOut_13 : decode cX0_nextOut 13 = .ok (.aload_n 0, 1) := by decide +kernel
theorem dX0_nextOut_14 : decode cX0_nextOut 14 = .ok (.iconst 1, 1) := by decide +kernel
theorem dX0_nextOut_15 : decode cX0_nextOut 15 = .ok (.invokevirtual 15, 3) := by decide +kernel
theorem dX0_nextOut_18 : decode cX0_nextOut 18 = .ok (.pop, 1) := by decide +kernel
theorem dX0_nextOut_19 : decode cX0_nextOut 19 = .ok (.iload_n 1, 1) := by decide +kernel
theorem dX0_nextOut_20 : decode cX0_nextOut 20 = .ok (.aload_n 0, 1) := by decide +kernel
theorem dX0_nextOut_21 : decode cX0_nextOut 21 = .ok (.getfield 18, 3) := by decide +kernel
theorem dX0_nextOut_24 : decode cX0_nextOut 24 = .ok (.iconst (-1), 1) := by decide +kernel
theorem dX0_nextOut_25 : decode cX0_nextOut 25 = .ok (.ixor, 1) := by decide +kernel
theorem dX0_nextOut_26 : decode cX0_nextOut 26 = .ok (.iand, 1) := by decide +kernel
theorem dX0_nextOut_27 : decode cX0_nextOut 27 = .ok (.istore_n 3, 1) := by decide +kernel
theorem dX0_nextOut_28 : decode cX0_nextOut 28 = .ok (.iload_n 3, 1) := by decide +kernel
theorem dX0_nextOut_29 : decode cX0_nextOut 29 = .ok (.ifCond .eq 8, 3) := by decide +kernel
theorem dX0_nextOut_32 : decode cX0_nextOut 32 = .ok (.iload_n 3, 1) := by decide +kernel
theorem dX0_nextOut_33 : decode cX0_nextOut 33 = .ok (.invokestatic 22, 3) := by decide +kernel
theorem dX0_nextOut_36 : decode cX0_nextOut 36 = .ok (.ireturn, 1) := by decide +kernel
theorem dX0_nextOut_37 : decode cX0_nextOut 37 = .ok (.iinc 2 1, 3) := by decide +kernel
theorem dX0_nextOut_40 : decode cX0_nextOut 40 = .ok (.goto (-33), 3) := by decide +kernel
theorem dX0_nextOut_43 : decode cX0_nextOut 43 = .ok (.bipush (-4), 2) := by decide +kernel
theorem dX0_nextOut_45 : decode cX0_nextOut 45 = .ok (.ireturn, 1) := by decide +kernel
theorem dX0_leastOf_0 : decode cX0_leastOf 0 = .ok (.iconst 0, 1) := by decide +kernel
theorem dX0_leastOf_1 : decode cX0_leastOf 1 = .ok (.istore_n 1, 1) := by decide +kernel
theorem dX0_leastOf_2 : decode cX0_leastOf 2 = .ok (.iload_n 1, 1) := by decide +kernel
theorem dX0_leastOf_3 : decode cX0_leastOf 3 = .ok (.bipush 10, 2) := by decide +kernel
theorem dX0_leastOf_5 : decode cX0_leastOf 5 = .ok (.if_icmp .ge 20, 3) := by decide +kernel
theorem dX0_leastOf_8 : decode cX0_leastOf 8 = .ok (.iload_n 0, 1) := by decide +kernel
theorem dX0_leastOf_9 : decode cX0_leastOf 9 = .ok (.iload_n 1, 1) := by decide +kernel
theorem dX0_leastOf_10 : decode cX0_leastOf 10 = .ok (.ishr, 1) := by decide +kernel
theorem dX0_leastOf_11 : decode cX0_leastOf 11 = .ok (.iconst 1, 1) := by decide +kernel
theorem dX0_leastOf_12 : decode cX0_leastOf 12 = .ok (.iand, 1) := by decide +kernel
theorem dX0_leastOf_13 : decode cX0_leastOf 13 = .ok (.iconst 1, 1) := by decide +kernel
theorem dX0_leastOf_14 : decode cX0_leastOf 14 = .ok (.if_icmp .ne 5, 3) := by decide +kernel
theorem dX0_leastOf_17 : decode cX0_leastOf 17 = .ok (.iload_n 1, 1) := by decide +kernel
theorem dX0_leastOf_18 : decode cX0_leastOf 18 = .ok (.ireturn, 1) := by decide +kernel
theorem dX0_leastOf_19 : decode cX0_leastOf 19 = .ok (.iinc 1 1, 3) := by decide +kernel
theorem dX0_leastOf_22 : decode cX0_leastOf 22 = .ok (.goto (-20), 3) := by decide +kernel
theorem dX0_leastOf_25 : decode cX0_leastOf 25 = .ok (.bipush (-4), 2) := by decide +kernel
theorem dX0_leastOf_27 : decode cX0_leastOf 27 = .ok (.ireturn, 1) := by decide +kernel
theorem dX0_firstDark_0 : decode cX0_firstDark 0 = .ok (.iconst 1, 1) := by decide +kernel
theorem dX0_firstDark_1 : decode cX0_firstDark 1 = .ok (.istore_n 1, 1) := by decide +kernel
theorem dX0_firstDark_2 : decode cX0_firstDark 2 = .ok (.iload_n 1, 1) := by decide +kernel
theorem dX0_firstDark_3 : decode cX0_firstDark 3 = .ok (.bipush 60, 2) := by decide +kernel
theorem dX0_firstDark_5 : decode cX0_firstDark 5 = .ok (.if_icmp .gt 19, 3) := by decide +kernel
theorem dX0_firstDark_8 : decode cX0_firstDark 8 = .ok (.aload_n 0, 1) := by decide +kernel
theorem dX0_firstDark_9 : decode cX0_firstDark 9 = .ok (.iconst 1, 1) := by decide +kernel
theorem dX0_firstDark_10 : decode cX0_firstDark 10 = .ok (.invokevirtual 15, 3) := by decide +kernel
theorem dX0_firstDark_13 : decode cX0_firstDark 13 = .ok (.ifCond .ne 5, 3) := by decide +kernel
theorem dX0_firstDark_16 : decode cX0_firstDark 16 = .ok (.iload_n 1, 1) := by decide +kernel
theorem dX0_firstDark_17 : decode cX0_firstDark 17 = .ok (.ireturn, 1) := by decide +kernel
theorem dX0_firstDark_18 : decode cX0_firstDark 18 = .ok (.iinc 1 1, 3) := by decide +kernel
theorem dX0_firstDark_21 : decode cX0_firstDark 21 = .ok (.goto (-19), 3) := by decide +kernel
theorem dX0_firstDark_24 : decode cX0_firstDark 24 = .ok (.bipush (-4), 2) := by decide +kernel
theorem dX0_firstDark_26 : decode cX0_firstDark 26 = .ok (.ireturn, 1) := by decide +kernel
theorem dX0_longest_0 : decode cX0_longest 0 = .ok (.iconst 0, 1) := by decide +kernel
theorem dX0_longest_1 : decode cX0_longest 1 = .ok (.istore_n 1, 1) := by decide +kernel
theorem dX0_longest_2 : decode cX0_longest 2 = .ok (.iconst 0, 1) := by decide +kernel
theorem dX0_longest_3 : decode cX0_longest 3 = .ok (.istore_n 2, 1) := by decide +kernel
theorem dX0_longest_4 : decode cX0_longest 4 = .ok (.iconst 0, 1) := by decide +kernel
theorem dX0_longest_5 : decode cX0_longest 5 = .ok (.istore_n 3, 1) := by decide +kernel
theorem dX0_longest_6 : decode cX0_longest 6 = .ok (.iload_n 3, 1) := by decide +kernel
theorem dX0_longest_7 : decode cX0_longest 7 = .ok (.bipush 60, 2) := by decide +kernel
theorem dX0_longest_9 : decode cX0_longest 9 = .ok (.if_icmp .ge 31, 3) := by decide +kernel
theorem dX0_longest_12 : decode cX0_longest 12 = .ok (.aload_n 0, 1) := by decide +kernel
theorem dX0_longest_13 : decode cX0_longest 13 = .ok (.iconst 1, 1) := by decide +kernel
theorem dX0_longest_14 : decode cX0_longest 14 = .ok (.invokevirtual 15, 3) := by decide +kernel
theorem dX0_longest_17 : decode cX0_longest 17 = .ok (.ifCond .eq 9, 3) := by decide +kernel
theorem dX0_longest_20 : decode cX0_longest 20 = .ok (.iload_n 2, 1) := by decide +kernel
theorem dX0_longest_21 : decode cX0_longest 21 = .ok (.iconst 1, 1) := by decide +kernel
theorem dX0_longest_22 : decode cX0_longest 22 = .ok (.iadd, 1) := by decide +kernel
theorem dX0_longest_23 : decode cX0_longest 23 = .ok (.goto 4, 3) := by decide +kernel
theorem dX0_longest_26 : decode cX0_longest 26 = .ok (.iconst 0, 1) := by decide +kernel
theorem dX0_longest_27 : decode cX0_longest 27 = .ok (.istore_n 2, 1) := by decide +kernel
theorem dX0_longest_28 : decode cX0_longest 28 = .ok (.iload_n 1, 1) := by decide +kernel
theorem dX0_longest_29 : decode cX0_longest 29 = .ok (.iload_n 2, 1) := by decide +kernel
theorem dX0_longest_30 : decode cX0_longest 30 = .ok (.invokestatic 28, 3) := by decide +kernel
theorem dX0_longest_33 : decode cX0_longest 33 = .ok (.istore_n 1, 1) := by decide +kernel
theorem dX0_longest_34 : decode cX0_longest 34 = .ok (.iinc 3 1, 3) := by decide +kernel
theorem dX0_longest_37 : decode cX0_longest 37 = .ok (.goto (-31), 3) := by decide +kernel
theorem dX0_longest_40 : decode cX0_longest 40 = .ok (.iload_n 1, 1) := by decide +kernel
theorem dX0_longest_41 : decode cX0_longest 41 = .ok (.ireturn, 1) := by decide +kernel
theorem dX0_hoursBurnt_0 : decode cX0_hoursBurnt 0 = .ok (.iconst 0, 1) := by decide +kernel
theorem dX0_hoursBurnt_1 : decode cX0_hoursBurnt 1 = .ok (.istore_n 2, 1) := by decide +kernel
theorem dX0_hoursBurnt_2 : decode cX0_hoursBurnt 2 = .ok (.iconst 0, 1) := by decide +kernel
theorem dX0_hoursBurnt_3 : decode cX0_hoursBurnt 3 = .ok (.istore_n 3, 1) := by decide +kernel
theorem dX0_hoursBurnt_4 : decode cX0_hoursBurnt 4 = .ok (.iload_n 3, 1) := by decide +kernel
theorem dX0_hoursBurnt_5 : decode cX0_hoursBurnt 5 = .ok (.iload_n 1, 1) := by decide +kernel
theorem dX0_hoursBurnt_6 : decode cX0_hoursBurnt 6 = .ok (.if_icmp .ge 20, 3) := by decide +kernel
theorem dX0_hoursBurnt_9 : decode cX0_hoursBurnt 9 = .ok (.aload_n 0, 1) := by decide +kernel
theorem dX0_hoursBurnt_10 : decode cX0_hoursBurnt 10 = .ok (.iconst 1, 1) := by decide +kernel
theorem dX0_hoursBurnt_11 : decode cX0_hoursBurnt 11 = .ok (.invokevirtual 15, 3) := by decide +kernel
theorem dX0_hoursBurnt_14 : decode cX0_hoursBurnt 14 = .ok (.ifCond .eq 6, 3) := by decide +kernel
theorem dX0_hoursBurnt_17 : decode cX0_hoursBurnt 17 = .ok (.iinc 2 1, 3) := by decide +kernel
theorem dX0_hoursBurnt_20 : decode cX0_hoursBurnt 20 = .ok (.iinc 3 1, 3) := by decide +kernel
theorem dX0_hoursBurnt_23 : decode cX0_hoursBurnt 23 = .ok (.goto (-19), 3) := by decide +kernel
theorem dX0_hoursBurnt_26 : decode cX0_hoursBurnt 26 = .ok (.iload_n 2, 1) := by decide +kernel
theorem dX0_hoursBurnt_27 : decode cX0_hoursBurnt 27 = .ok (.ireturn, 1) := by decide +kernel
theorem dX0_burnsWithSpares_0 : decode cX0_burnsWithSpares 0 = .ok (.iconst 0, 1) := by decide +kernel
theorem dX0_burnsWithSpares_1 : decode cX0_burnsWithSpares 1 = .ok (.istore_n 2, 1) := by decide +kernel
theorem dX0_burnsWithSpares_2 : decode cX0_burnsWithSpares 2 = .ok (.iload_n 2, 1) := by decide +kernel
theorem dX0_burnsWithSpares_3 : decode cX0_burnsWithSpares 3 = .ok (.iload_n 1, 1) := by decide +kernel
theorem dX0_burnsWithSpares_4 : decode cX0_burnsWithSpares 4 = .ok (.if_icmp .ge 55, 3) := by decide +kernel
theorem dX0_burnsWithSpares_7 : decode cX0_burnsWithSpares 7 = .ok (.iconst 0, 1) := by decide +kernel
theorem dX0_burnsWithSpares_8 : decode cX0_burnsWithSpares 8 = .ok (.istore_n 3, 1) := by decide +kernel
theorem dX0_burnsWithSpares_9 : decode cX0_burnsWithSpares 9 = .ok (.iload_n 3, 1) := by decide +kernel
theorem dX0_burnsWithSpares_10 : decode cX0_burnsWithSpares 10 = .ok (.aload_n 0, 1) := by decide +kernel
theorem dX0_burnsWithSpares_11 : decode cX0_burnsWithSpares 11 = .ok (.getfield 34, 3) := by decide +kernel
theorem dX0_burnsWithSpares_14 : decode cX0_burnsWithSpares 14 = .ok (.if_icmp .ge 29, 3) := by decide +kernel
theorem dX0_burnsWithSpares_17 : decode cX0_burnsWithSpares 17 = .ok (.aload_n 0, 1) := by decide +kernel
theorem dX0_burnsWithSpares_18 : decode cX0_burnsWithSpares 18 = .ok (.iload_n 3, 1) := by decide +kernel
theorem dX0_burnsWithSpares_19 : decode cX0_burnsWithSpares 19 = .ok (.invokevirtual 9, 3) := by decide +kernel
theorem dX0_burnsWithSpares_22 : decode cX0_burnsWithSpares 22 = .ok (.ifCond .ne 15, 3) := by decide +kernel
theorem dX0_burnsWithSpares_25 : decode cX0_burnsWithSpares 25 = .ok (.aload_n 0, 1) := by decide +kernel
theorem dX0_burnsWithSpares_26 : decode cX0_burnsWithSpares 26 = .ok (.getfield 37, 3) := by decide +kernel
theorem dX0_burnsWithSpares_29 : decode cX0_burnsWithSpares 29 = .ok (.ifCond .le 8, 3) := by decide +kernel
theorem dX0_burnsWithSpares_32 : decode cX0_burnsWithSpares 32 = .ok (.aload_n 0, 1) := by decide +kernel
theorem dX0_burnsWithSpares_33 : decode cX0_burnsWithSpares 33 = .ok (.iload_n 3, 1) := by decide +kernel
theorem dX0_burnsWithSpares_34 : decode cX0_burnsWithSpares 34 = .ok (.invokevirtual 40, 3) := by decide +kernel
theorem dX0_burnsWithSpares_37 : decode cX0_burnsWithSpares 37 = .ok (.iinc 3 1, 3) := by decide +kernel
theorem dX0_burnsWithSpares_40 : decode cX0_burnsWithSpares 40 = .ok (.goto (-31), 3) := by decide +kernel
theorem dX0_burnsWithSpares_43 : decode cX0_burnsWithSpares 43 = .ok (.aload_n 0, 1) := by decide +kernel
theorem dX0_burnsWithSpares_44 : decode cX0_burnsWithSpares 44 = .ok (.iconst 1, 1) := by decide +kernel
theorem dX0_burnsWithSpares_45 : decode cX0_burnsWithSpares 45 = .ok (.invokevirtual 15, 3) := by decide +kernel
theorem dX0_burnsWithSpares_48 : decode cX0_burnsWithSpares 48 = .ok (.ifCond .ne 5, 3) := by decide +kernel
theorem dX0_burnsWithSpares_51 : decode cX0_burnsWithSpares 51 = .ok (.iconst 0, 1) := by decide +kernel
theorem dX0_burnsWithSpares_52 : decode cX0_burnsWithSpares 52 = .ok (.ireturn, 1) := by decide +kernel
theorem dX0_burnsWithSpares_53 : decode cX0_burnsWithSpares 53 = .ok (.iinc 2 1, 3) := by decide +kernel
theorem dX0_burnsWithSpares_56 : decode cX0_burnsWithSpares 56 = .ok (.goto (-54), 3) := by decide +kernel
theorem dX0_burnsWithSpares_59 : decode cX0_burnsWithSpares 59 = .ok (.iconst 1, 1) := by decide +kernel
theorem dX0_burnsWithSpares_60 : decode cX0_burnsWithSpares 60 = .ok (.ireturn, 1) := by decide +kernel
theorem dX0_wearsAsTold_0 : decode cX0_wearsAsTold 0 = .ok (.aload_n 0, 1) := by decide +kernel
theorem dX0_wearsAsTold_1 : decode cX0_wearsAsTold 1 = .ok (.iload_n 3, 1) := by decide +kernel
theorem dX0_wearsAsTold_2 : decode cX0_wearsAsTold 2 = .ok (.invokevirtual 44, 3) := by decide +kernel
theorem dX0_wearsAsTold_5 : decode cX0_wearsAsTold 5 = .ok (.aload_n 2, 1) := by decide +kernel
theorem dX0_wearsAsTold_6 : decode cX0_wearsAsTold 6 = .ok (.invokevirtual 47, 3) := by decide +kernel
theorem dX0_wearsAsTold_9 : decode cX0_wearsAsTold 9 = .ok (.istore 4, 2) := by decide +kernel
theorem dX0_wearsAsTold_11 : decode cX0_wearsAsTold 11 = .ok (.iconst 0, 1) := by decide +kernel
theorem dX0_wearsAsTold_12 : decode cX0_wearsAsTold 12 = .ok (.istore 5, 2) := by decide +kernel
theorem dX0_wearsAsTold_14 : decode cX0_wearsAsTold 14 = .ok (.iload 5, 2) := by decide +kernel
theorem dX0_wearsAsTold_16 : decode cX0_wearsAsTold 16 = .ok (.iload 4, 2) := by decide +kernel
theorem dX0_wearsAsTold_18 : decode cX0_wearsAsTold 18 = .ok (.if_icmp .ge 47, 3) := by decide +kernel
theorem dX0_wearsAsTold_21 : decode cX0_wearsAsTold 21 = .ok (.iload 5, 2) := by decide +kernel
theorem dX0_wearsAsTold_23 : decode cX0_wearsAsTold 23 = .ok (.ifCond .le 9, 3) := by decide +kernel
theorem dX0_wearsAsTold_26 : decode cX0_wearsAsTold 26 = .ok (.aload_n 0, 1) := by decide +kernel
theorem dX0_wearsAsTold_27 : decode cX0_wearsAsTold 27 = .ok (.iconst 1, 1) := by decide +kernel
theorem dX0_wearsAsTold_28 : decode cX0_wearsAsTold 28 = .ok (.invokevirtual 15, 3) := by decide +kernel
theorem dX0_wearsAsTold_31 : decode cX0_wearsAsTold 31 = .ok (.pop, 1) := by decide +kernel
theorem dX0_wearsAsTold_32 : decode cX0_wearsAsTold 32 = .ok (.aload_n 2, 1) := by decide +kernel
theorem dX0_wearsAsTold_33 : decode cX0_wearsAsTold 33 = .ok (.iload 5, 2) := by decide +kernel
theorem dX0_wearsAsTold_35 : decode cX0_wearsAsTold 35 = .ok (.invokevirtual 53, 3) := by decide +kernel
theorem dX0_wearsAsTold_38 : decode cX0_wearsAsTold 38 = .ok (.ifCond .ne 21, 3) := by decide +kernel
theorem dX0_wearsAsTold_41 : decode cX0_wearsAsTold 41 = .ok (.aload_n 2, 1) := by decide +kernel
theorem dX0_wearsAsTold_42 : decode cX0_wearsAsTold 42 = .ok (.getfield 56, 3) := by decide +kernel
theorem dX0_wearsAsTold_45 : decode cX0_wearsAsTold 45 = .ok (.iload 5, 2) := by decide +kernel
theorem dX0_wearsAsTold_47 : decode cX0_wearsAsTold 47 = .ok (.iaload, 1) := by decide +kernel
theorem dX0_wearsAsTold_48 : decode cX0_wearsAsTold 48 = .ok (.aload_n 0, 1) := by decide +kernel
theorem dX0_wearsAsTold_49 : decode cX0_wearsAsTold 49 = .ok (.getfield 60, 3) := by decide +kernel
theorem dX0_wearsAsTold_52 : decode cX0_wearsAsTold 52 = .ok (.iload_n 1, 1) := by decide +kernel
theorem dX0_wearsAsTold_53 : decode cX0_wearsAsTold 53 = .ok (.iaload, 1) := by decide +kernel
theorem dX0_wearsAsTold_54 : decode cX0_wearsAsTold 54 = .ok (.if_icmp .eq 5, 3) := by decide +kernel
theorem dX0_wearsAsTold_57 : decode cX0_wearsAsTold 57 = .ok (.iconst 0, 1) := by decide +kernel
theorem dX0_wearsAsTold_58 : decode cX0_wearsAsTold 58 = .ok (.ireturn, 1) := by decide +kernel
theorem dX0_wearsAsTold_59 : decode cX0_wearsAsTold 59 = .ok (.iinc 5 1, 3) := by decide +kernel
theorem dX0_wearsAsTold_62 : decode cX0_wearsAsTold 62 = .ok (.goto (-48), 3) := by decide +kernel
theorem dX0_wearsAsTold_65 : decode cX0_wearsAsTold 65 = .ok (.iconst 1, 1) := by decide +kernel
theorem dX0_wearsAsTold_66 : decode cX0_wearsAsTold 66 = .ok (.ireturn, 1) := by decide +kernel
theorem dX0_firstMiscount_0 : decode cX0_firstMiscount 0 = .ok (.aload_n 1, 1) := by decide +kernel
theorem dX0_firstMiscount_1 : decode cX0_firstMiscount 1 = .ok (.invokevirtual 47, 3) := by decide +kernel
theorem dX0_firstMiscount_4 : decode cX0_firstMiscount 4 = .ok (.istore_n 2, 1) := by decide +kernel
theorem dX0_firstMiscount_5 : decode cX0_firstMiscount 5 = .ok (.iconst 0, 1) := by decide +kernel
theorem dX0_firstMiscount_6 : decode cX0_firstMiscount 6 = .ok (.istore_n 3, 1) := by decide +kernel
theorem dX0_firstMiscount_7 : decode cX0_firstMiscount 7 = .ok (.iload_n 3, 1) := by decide +kernel
theorem dX0_firstMiscount_8 : decode cX0_firstMiscount 8 = .ok (.iload_n 2, 1) := by decide +kernel
theorem dX0_firstMiscount_9 : decode cX0_firstMiscount 9 = .ok (.if_icmp .ge 45, 3) := by decide +kernel
theorem dX0_firstMiscount_12 : decode cX0_firstMiscount 12 = .ok (.iload_n 3, 1) := by decide +kernel
theorem dX0_firstMiscount_13 : decode cX0_firstMiscount 13 = .ok (.ifCond .le 9, 3) := by decide +kernel
theorem dX0_firstMiscount_16 : decode cX0_firstMiscount 16 = .ok (.aload_n 0, 1) := by decide +kernel
theorem dX0_firstMiscount_17 : decode cX0_firstMiscount 17 = .ok (.iconst 1, 1) := by decide +kernel
theorem dX0_firstMiscount_18 : decode cX0_firstMiscount 18 = .ok (.invokevirtual 15, 3) := by decide +kernel
theorem dX0_firstMiscount_21 : decode cX0_firstMiscount 21 = .ok (.pop, 1) := by decide +kernel
theorem dX0_firstMiscount_22 : decode cX0_firstMiscount 22 = .ok (.aload_n 1, 1) := by decide +kernel
theorem dX0_firstMiscount_23 : decode cX0_firstMiscount 23 = .ok (.iload_n 3, 1) := by decide +kernel
theorem dX0_firstMiscount_24 : decode cX0_firstMiscount 24 = .ok (.invokevirtual 53, 3) := by decide +kernel
theorem dX0_firstMiscount_27 : decode cX0_firstMiscount 27 = .ok (.ifCond .ne 21, 3) := by decide +kernel
theorem dX0_firstMiscount_30 : decode cX0_firstMiscount 30 = .ok (.aload_n 1, 1) := by decide +kernel
theorem dX0_firstMiscount_31 : decode cX0_firstMiscount 31 = .ok (.getfield 56, 3) := by decide +kernel
theorem dX0_firstMiscount_34 : decode cX0_firstMiscount 34 = .ok (.iload_n 3, 1) := by decide +kernel
theorem dX0_firstMiscount_35 : decode cX0_firstMiscount 35 = .ok (.iaload, 1) := by decide +kernel
theorem dX0_firstMiscount_36 : decode cX0_firstMiscount 36 = .ok (.aload_n 0, 1) := by decide +kernel
theorem dX0_firstMiscount_37 : decode cX0_firstMiscount 37 = .ok (.getfield 18, 3) := by decide +kernel
theorem dX0_firstMiscount_40 : decode cX0_firstMiscount 40 = .ok (.invokestatic 63, 3) := by decide +kernel
theorem dX0_firstMiscount_43 : decode cX0_firstMiscount 43 = .ok (.if_icmp .eq 5, 3) := by decide +kernel
theorem dX0_firstMiscount_46 : decode cX0_firstMiscount 46 = .ok (.iload_n 3, 1) := by decide +kernel
theorem dX0_firstMiscount_47 : decode cX0_firstMiscount 47 = .ok (.ireturn, 1) := by decide +kernel
theorem dX0_firstMiscount_48 : decode cX0_firstMiscount 48 = .ok (.iinc 3 1, 3) := by decide +kernel
theorem dX0_firstMiscount_51 : decode cX0_firstMiscount 51 = .ok (.goto (-44), 3) := by decide +kernel
theorem dX0_firstMiscount_54 : decode cX0_firstMiscount 54 = .ok (.bipush (-4), 2) := by decide +kernel
theorem dX0_firstMiscount_56 : decode cX0_firstMiscount 56 = .ok (.ireturn, 1) := by decide +kernel
theorem dX1_init_0 : decode cX1_init 0 = .ok (.aload_n 0, 1) := by decide +kernel
theorem dX1_init_1 : decode cX1_init 1 = .ok (.invokespecial 3, 3) := by decide +kernel
theorem dX1_init_4 : decode cX1_init 4 = .ok (.aload_n 0, 1) := by decide +kernel
theorem dX1_init_5 : decode cX1_init 5 = .ok (.bipush 100, 2) := by decide +kernel
theorem dX1_init_7 : decode cX1_init 7 = .ok (.newarray .int, 2) := by decide +kernel
theorem dX1_init_9 : decode cX1_init 9 = .ok (.putfield 9, 3) := by decide +kernel
theorem dX1_init_12 : decode cX1_init 12 = .ok (.return_, 1) := by decide +kernel
theorem dX1_wireSeconds_0 : decode cX1_wireSeconds 0 = .ok (.bipush 6, 2) := by decide +kernel
theorem dX1_wireSeconds_2 : decode cX1_wireSeconds 2 = .ok (.iconst 2, 1) := by decide +kernel
theorem dX1_wireSeconds_3 : decode cX1_wireSeconds 3 = .ok (.iload_n 1, 1) := by decide +kernel
theorem dX1_wireSeconds_4 : decode cX1_wireSeconds 4 = .ok (.iload_n 0, 1) := by decide +kernel
theorem dX1_wireSeconds_5 : decode cX1_wireSeconds 5 = .ok (.isub, 1) := by decide +kernel
theorem dX1_wireSeconds_6 : decode cX1_wireSeconds 6 = .ok (.imul, 1) := by decide +kernel
theorem dX1_wireSeconds_7 : decode cX1_wireSeconds 7 = .ok (.iadd, 1) := by decide +kernel
theorem dX1_wireSeconds_8 : decode cX1_wireSeconds 8 = .ok (.ireturn, 1) := by decide +kernel
theorem dX1_bestOf_0 : decode cX1_bestOf 0 = .ok (.aload_n 0, 1) := by decide +kernel
theorem dX1_bestOf_1 : decode cX1_bestOf 1 = .ok (.getfield 9, 3) := by decide +kernel
theorem dX1_bestOf_4 : decode cX1_bestOf 4 = .ok (.iload_n 1, 1) := by decide +kernel
theorem dX1_bestOf_5 : decode cX1_bestOf 5 = .ok (.bipush 10, 2) := by decide +kernel
theorem dX1_bestOf_7 : decode cX1_bestOf 7 = .ok (.imul, 1) := by decide +kernel
theorem dX1_bestOf_8 : decode cX1_bestOf 8 = .ok (.iload_n 2, 1) := by decide +kernel
theorem dX1_bestOf_9 : decode cX1_bestOf 9 = .ok (.iadd, 1) := by decide +kernel
theorem dX1_bestOf_10 : decode cX1_bestOf 10 = .ok (.iaload, 1) := by decide +kernel
theorem dX1_bestOf_11 : decode cX1_bestOf 11 = .ok (.ireturn, 1) := by decide +kernel
theorem dX1_worstByCut_0 : decode cX1_worstByCut 0 = .ok (.iload_n 1, 1) := by decide +kernel
theorem dX1_worstByCut_1 : decode cX1_worstByCut 1 = .ok (.iload_n 3, 1) := by decide +kernel
theorem dX1_worstByCut_2 : decode cX1_worstByCut 2 = .ok (.invokestatic 15, 3) := by decide +kernel
theorem dX1_worstByCut_5 : decode cX1_worstByCut 5 = .ok (.aload_n 0, 1) := by decide +kernel
theorem dX1_worstByCut_6 : decode cX1_worstByCut 6 = .ok (.iload_n 1, 1) := by decide +kernel
theorem dX1_worstByCut_7 : decode cX1_worstByCut 7 = .ok (.iload_n 3, 1) := by decide +kernel
theorem dX1_worstByCut_8 : decode cX1_worstByCut 8 = .ok (.invokevirtual 19, 3) := by decide +kernel
theorem dX1_worstByCut_11 : decode cX1_worstByCut 11 = .ok (.aload_n 0, 1) := by decide +kernel
theorem dX1_worstByCut_12 : decode cX1_worstByCut 12 = .ok (.iload_n 3, 1) := by decide +kernel
theorem dX1_worstByCut_13 : decode cX1_worstByCut 13 = .ok (.iconst 1, 1) := by decide +kernel
theorem dX1_worstByCut_14 : decode cX1_worstByCut 14 = .ok (.iadd, 1) := by decide +kernel
theorem dX1_worstByCut_15 : decode cX1_worstByCut 15 = .ok (.iload_n 2, 1) := by decide +kernel
theorem dX1_worstByCut_16 : decode cX1_worstByCut 16 = .ok (.invokevirtual 19, 3) := by decide +kernel
theorem dX1_worstByCut_19 : decode cX1_worstByCut 19 = .ok (.invokestatic 22, 3) := by decide +kernel
theorem dX1_worstByCut_22 : decode cX1_worstByCut 22 = .ok (.iadd, 1) := by decide +kernel
theorem dX1_worstByCut_23 : decode cX1_worstByCut 23 = .ok (.ireturn, 1) := by decide +kernel
theorem dX1_worstOf_0 : decode cX1_worstOf 0 = .ok (.ldc 27, 2) := by decide +kernel
theorem dX1_worstOf_2 : decode cX1_worstOf 2 = .ok (.istore_n 3, 1) := by decide +kernel
theorem dX1_worstOf_3 : decode cX1_worstOf 3 = .ok (.iload_n 1, 1) := by decide +kernel
theorem dX1_worstOf_4 : decode cX1_worstOf 4 = .ok (.istore 4, 2) := by decide +kernel
theorem dX1_worstOf_6 : decode cX1_worstOf 6 = .ok (.iload 4, 2) := by decide +kernel
theorem dX1_worstOf_8 : decode cX1_worstOf 8 = .ok (.iload_n 2, 1) := by decide +kernel
theorem dX1_worstOf_9 : decode cX1_worstOf 9 = .ok (.if_icmp .ge 22, 3) := by decide +kernel
theorem dX1_worstOf_12 : decode cX1_worstOf 12 = .ok (.iload_n 3, 1) := by decide +kernel
theorem dX1_worstOf_13 : decode cX1_worstOf 13 = .ok (.aload_n 0, 1) := by decide +kernel
theorem dX1_worstOf_14 : decode cX1_worstOf 14 = .ok (.iload_n 1, 1) := by decide +kernel
theorem dX1_worstOf_15 : decode cX1_worstOf 15 = .ok (.iload_n 2, 1) := by decide +kernel
theorem dX1_worstOf_16 : decode cX1_worstOf 16 = .ok (.iload 4, 2) := by decide +kernel
theorem dX1_worstOf_18 : decode cX1_worstOf 18 = .ok (.invokevirtual 28, 3) := by decide +kernel
theorem dX1_worstOf_21 : decode cX1_worstOf 21 = .ok (.invokestatic 32, 3) := by decide +kernel
theorem dX1_worstOf_24 : decode cX1_worstOf 24 = .ok (.istore_n 3, 1) := by decide +kernel
theorem dX1_worstOf_25 : decode cX1_worstOf 25 = .ok (.iinc 4 1, 3) := by decide +kernel
theorem dX1_worstOf_28 : decode cX1_worstOf 28 = .ok (.goto (-22), 3) := by decide +kernel
theorem dX1_worstOf_31 : decode cX1_worstOf 31 = .ok (.iload_n 3, 1) := by decide +kernel
theorem dX1_worstOf_32 : decode cX1_worstOf 32 = .ok (.ireturn, 1) := by decide +kernel
theorem dX1_weighedOf_0 : decode cX1_weighedOf 0 = .ok (.aload_n 1, 1) := by decide +kernel
theorem dX1_weighedOf_1 : decode cX1_weighedOf 1 = .ok (.iload_n 2, 1) := by decide +kernel
theorem dX1_weighedOf_2 : decode cX1_weighedOf 2 = .ok (.iload_n 3, 1) := by decide +kernel
theorem dX1_weighedOf_3 : decode cX1_weighedOf 3 = .ok (.invokevirtual 35, 3) := by decide +kernel
theorem dX1_weighedOf_6 : decode cX1_weighedOf 6 = .ok (.istore 4, 2) := by decide +kernel
theorem dX1_weighedOf_8 : decode cX1_weighedOf 8 = .ok (.ldc 27, 2) := by decide +kernel
theorem dX1_weighedOf_10 : decode cX1_weighedOf 10 = .ok (.istore 5, 2) := by decide +kernel
theorem dX1_weighedOf_12 : decode cX1_weighedOf 12 = .ok (.iload_n 2, 1) := by decide +kernel
theorem dX1_weighedOf_13 : decode cX1_weighedOf 13 = .ok (.istore 6, 2) := by decide +kernel
theorem dX1_weighedOf_15 : decode cX1_weighedOf 15 = .ok (.iload 6, 2) := by decide +kernel
theorem dX1_weighedOf_17 : decode cX1_weighedOf 17 = .ok (.iload_n 3, 1) := by decide +kernel
theorem dX1_weighedOf_18 : decode cX1_weighedOf 18 = .ok (.if_icmp .ge 47, 3) := by decide +kernel
theorem dX1_weighedOf_21 : decode cX1_weighedOf 21 = .ok (.iload_n 2, 1) := by decide +kernel
theorem dX1_weighedOf_22 : decode cX1_weighedOf 22 = .ok (.iload 6, 2) := by decide +kernel
theorem dX1_weighedOf_24 : decode cX1_weighedOf 24 = .ok (.invokestatic 15, 3) := by decide +kernel
theorem dX1_weighedOf_27 : decode cX1_weighedOf 27 = .ok (.iload 4, 2) := by decide +kernel
theorem dX1_weighedOf_29 : decode cX1_weighedOf 29 = .ok (.imul, 1) := by decide +kernel
theorem dX1_weighedOf_30 : decode cX1_weighedOf 30 = .ok (.aload_n 0, 1) := by decide +kernel
theorem dX1_weighedOf_31 : decode cX1_weighedOf 31 = .ok (.iload_n 2, 1) := by decide +kernel
theorem dX1_weighedOf_32 : decode cX1_weighedOf 32 = .ok (.iload 6, 2) := by decide +kernel
theorem dX1_weighedOf_34 : decode cX1_weighedOf 34 = .ok (.invokevirtual 19, 3) := by decide +kernel
theorem dX1_weighedOf_37 : decode cX1_weighedOf 37 = .ok (.iadd, 1) := by decide +kernel
theorem dX1_weighedOf_38 : decode cX1_weighedOf 38 = .ok (.aload_n 0, 1) := by decide +kernel
theorem dX1_weighedOf_39 : decode cX1_weighedOf 39 = .ok (.iload 6, 2) := by decide +kernel
theorem dX1_weighedOf_41 : decode cX1_weighedOf 41 = .ok (.iconst 1, 1) := by decide +kernel
theorem dX1_weighedOf_42 : decode cX1_weighedOf 42 = .ok (.iadd, 1) := by decide +kernel
theorem dX1_weighedOf_43 : decode cX1_weighedOf 43 = .ok (.iload_n 3, 1) := by decide +kernel
theorem dX1_weighedOf_44 : decode cX1_weighedOf 44 = .ok (.invokevirtual 19, 3) := by decide +kernel
theorem dX1_weighedOf_47 : decode cX1_weighedOf 47 = .ok (.iadd, 1) := by decide +kernel
theorem dX1_weighedOf_48 : decode cX1_weighedOf 48 = .ok (.istore 7, 2) := by decide +kernel
theorem dX1_weighedOf_50 : decode cX1_weighedOf 50 = .ok (.iload 5, 2) := by decide +kernel
theorem dX1_weighedOf_52 : decode cX1_weighedOf 52 = .ok (.iload 7, 2) := by decide +kernel
theorem dX1_weighedOf_54 : decode cX1_weighedOf 54 = .ok (.invokestatic 32, 3) := by decide +kernel
theorem dX1_weighedOf_57 : decode cX1_weighedOf 57 = .ok (.istore 5, 2) := by decide +kernel
theorem dX1_weighedOf_59 : decode cX1_weighedOf 59 = .ok (.iinc 6 1, 3) := by decide +kernel
theorem dX1_weighedOf_62 : decode cX1_weighedOf 62 = .ok (.goto (-47), 3) := by decide +kernel
theorem dX1_weighedOf_65 : decode cX1_weighedOf 65 = .ok (.iload 5, 2) := by decide +kernel
theorem dX1_weighedOf_67 : decode cX1_weighedOf 67 = .ok (.ireturn, 1) := by decide +kernel
theorem dX1_worst_0 : decode cX1_worst 0 = .ok (.iconst 1, 1) := by decide +kernel
theorem dX1_worst_1 : decode cX1_worst 1 = .ok (.istore_n 3, 1) := by decide +kernel
theorem dX1_worst_2 : decode cX1_worst 2 = .ok (.iload_n 3, 1) := by decide +kernel
theorem dX1_worst_3 : decode cX1_worst 3 = .ok (.iload_n 2, 1) := by decide +kernel
theorem dX1_worst_4 : decode cX1_worst 4 = .ok (.iload_n 1, 1) := by decide +kernel
theorem dX1_worst_5 : decode cX1_worst 5 = .ok (.isub, 1) := by decide +kernel
theorem dX1_worst_6 : decode cX1_worst 6 = .ok (.if_icmp .gt 51, 3) := by decide +kernel
theorem dX1_worst_9 : decode cX1_worst 9 = .ok (.iload_n 1, 1) := by decide +kernel
theorem dX1_worst_10 : decode cX1_worst 10 = .ok (.istore 4, 2) := by decide +kernel
theorem dX1_worst_12 : decode cX1_worst 12 = .ok (.iload 4, 2) := by decide +kernel
theorem dX1_worst_14 : decode cX1_worst 14 = .ok (.iload_n 3, 1) := by decide +kernel
theorem dX1_worst_15 : decode cX1_worst 15 = .ok (.iadd, 1) := by decide +kernel
theorem dX1_worst_16 : decode cX1_worst 16 = .ok (.iload_n 2, 1) := by decide +kernel
theorem dX1_worst_17 : decode cX1_worst 17 = .ok (.if_icmp .gt 34, 3) := by decide +kernel
theorem dX1_worst_20 : decode cX1_worst 20 = .ok (.aload_n 0, 1) := by decide +kernel
theorem dX1_worst_21 : decode cX1_worst 21 = .ok (.getfield 9, 3) := by decide +kernel
theorem dX1_worst_24 : decode cX1_worst 24 = .ok (.iload 4, 2) := by decide +kernel
theorem dX1_worst_26 : decode cX1_worst 26 = .ok (.bipush 10, 2) := by decide +kernel
theorem dX1_worst_28 : decode cX1_worst 28 = .ok (.imul, 1) := by decide +kernel
theorem dX1_worst_29 : decode cX1_worst 29 = .ok (.iload 4, 2) := by decide +kernel
theorem dX1_worst_31 : decode cX1_worst 31 = .ok (.iadd, 1) := by decide +kernel
theorem dX1_worst_32 : decode cX1_worst 32 = .ok (.iload_n 3, 1) := by decide +kernel
theorem dX1_worst_33 : decode cX1_worst 33 = .ok (.iadd, 1) := by decide +kernel
theorem dX1_worst_34 : decode cX1_worst 34 = .ok (.aload_n 0, 1) := by decide +kernel
theorem dX1_worst_35 : decode cX1_worst 35 = .ok (.iload 4, 2) := by decide +kernel
theorem dX1_worst_37 : decode cX1_worst 37 = .ok (.iload 4, 2) := by decide +kernel
theorem dX1_worst_39 : decode cX1_worst 39 = .ok (.iload_n 3, 1) := by decide +kernel
theorem dX1_worst_40 : decode cX1_worst 40 = .ok (.iadd, 1) := by decide +kernel
theorem dX1_worst_41 : decode cX1_worst 41 = .ok (.invokevirtual 40, 3) := by decide +kernel
theorem dX1_worst_44 : decode cX1_worst 44 = .ok (.iastore, 1) := by decide +kernel
theorem dX1_worst_45 : decode cX1_worst 45 = .ok (.iinc 4 1, 3) := by decide +kernel
theorem dX1_worst_48 : decode cX1_worst 48 = .ok (.goto (-36), 3) := by decide +kernel
theorem dX1_worst_51 : decode cX1_worst 51 = .ok (.iinc 3 1, 3) := by decide +kernel
theorem dX1_worst_54 : decode cX1_worst 54 = .ok (.goto (-52), 3) := by decide +kernel
theorem dX1_worst_57 : decode cX1_worst 57 = .ok (.aload_n 0, 1) := by decide +kernel
theorem dX1_worst_58 : decode cX1_worst 58 = .ok (.iload_n 1, 1) := by decide +kernel
theorem dX1_worst_59 : decode cX1_worst 59 = .ok (.iload_n 2, 1) := by decide +kernel
theorem dX1_worst_60 : decode cX1_worst 60 = .ok (.invokevirtual 19, 3) := by decide +kernel
theorem dX1_worst_63 : decode cX1_worst 63 = .ok (.ireturn, 1) := by decide +kernel
theorem dX1_cut_0 : decode cX1_cut 0 = .ok (.aload_n 0, 1) := by decide +kernel
theorem dX1_cut_1 : decode cX1_cut 1 = .ok (.iload_n 1, 1) := by decide +kernel
theorem dX1_cut_2 : decode cX1_cut 2 = .ok (.iload_n 2, 1) := by decide +kernel
theorem dX1_cut_3 : decode cX1_cut 3 = .ok (.invokevirtual 43, 3) := by decide +kernel
theorem dX1_cut_6 : decode cX1_cut 6 = .ok (.istore_n 3, 1) := by decide +kernel
theorem dX1_cut_7 : decode cX1_cut 7 = .ok (.iload_n 1, 1) := by decide +kernel
theorem dX1_cut_8 : decode cX1_cut 8 = .ok (.istore 4, 2) := by decide +kernel
theorem dX1_cut_10 : decode cX1_cut 10 = .ok (.iload 4, 2) := by decide +kernel
theorem dX1_cut_12 : decode cX1_cut 12 = .ok (.iload_n 2, 1) := by decide +kernel
theorem dX1_cut_13 : decode cX1_cut 13 = .ok (.if_icmp .ge 24, 3) := by decide +kernel
theorem dX1_cut_16 : decode cX1_cut 16 = .ok (.aload_n 0, 1) := by decide +kernel
theorem dX1_cut_17 : decode cX1_cut 17 = .ok (.iload_n 1, 1) := by decide +kernel
theorem dX1_cut_18 : decode cX1_cut 18 = .ok (.iload_n 2, 1) := by decide +kernel
theorem dX1_cut_19 : decode cX1_cut 19 = .ok (.iload 4, 2) := by decide +kernel
theorem dX1_cut_21 : decode cX1_cut 21 = .ok (.invokevirtual 28, 3) := by decide +kernel
theorem dX1_cut_24 : decode cX1_cut 24 = .ok (.iload_n 3, 1) := by decide +kernel
theorem dX1_cut_25 : decode cX1_cut 25 = .ok (.if_icmp .ne 6, 3) := by decide +kernel
theorem dX1_cut_28 : decode cX1_cut 28 = .ok (.iload 4, 2) := by decide +kernel
theorem dX1_cut_30 : decode cX1_cut 30 = .ok (.ireturn, 1) := by decide +kernel
theorem dX1_cut_31 : decode cX1_cut 31 = .ok (.iinc 4 1, 3) := by decide +kernel
theorem dX1_cut_34 : decode cX1_cut 34 = .ok (.goto (-24), 3) := by decide +kernel
theorem dX1_cut_37 : decode cX1_cut 37 = .ok (.bipush (-4), 2) := by decide +kernel
theorem dX1_cut_39 : decode cX1_cut 39 = .ok (.ireturn, 1) := by decide +kernel
theorem dX1_weighed_0 : decode cX1_weighed 0 = .ok (.iconst 1, 1) := by decide +kernel
theorem dX1_weighed_1 : decode cX1_weighed 1 = .ok (.istore 4, 2) := by decide +kernel
theorem dX1_weighed_3 : decode cX1_weighed 3 = .ok (.iload 4, 2) := by decide +kernel
theorem dX1_weighed_5 : decode cX1_weighed 5 = .ok (.iload_n 3, 1) := by decide +kernel
theorem dX1_weighed_6 : decode cX1_weighed 6 = .ok (.iload_n 2, 1) := by decide +kernel
theorem dX1_weighed_7 : decode cX1_weighed 7 = .ok (.isub, 1) := by decide +kernel
theorem dX1_weighed_8 : decode cX1_weighed 8 = .ok (.if_icmp .gt 55, 3) := by decide +kernel
theorem dX1_weighed_11 : decode cX1_weighed 11 = .ok (.iload_n 2, 1) := by decide +kernel
theorem dX1_weighed_12 : decode cX1_weighed 12 = .ok (.istore 5, 2) := by decide +kernel
theorem dX1_weighed_14 : decode cX1_weighed 14 = .ok (.iload 5, 2) := by decide +kernel
theorem dX1_weighed_16 : decode cX1_weighed 16 = .ok (.iload 4, 2) := by decide +kernel
theorem dX1_weighed_18 : decode cX1_weighed 18 = .ok (.iadd, 1) := by decide +kernel
theorem dX1_weighed_19 : decode cX1_weighed 19 = .ok (.iload_n 3, 1) := by decide +kernel
theorem dX1_weighed_20 : decode cX1_weighed 20 = .ok (.if_icmp .gt 37, 3) := by decide +kernel
theorem dX1_weighed_23 : decode cX1_weighed 23 = .ok (.aload_n 0, 1) := by decide +kernel
theorem dX1_weighed_24 : decode cX1_weighed 24 = .ok (.getfield 9, 3) := by decide +kernel
theorem dX1_weighed_27 : decode cX1_weighed 27 = .ok (.iload 5, 2) := by decide +kernel
theorem dX1_weighed_29 : decode cX1_weighed 29 = .ok (.bipush 10, 2) := by decide +kernel
theorem dX1_weighed_31 : decode cX1_weighed 31 = .ok (.imul, 1) := by decide +kernel
theorem dX1_weighed_32 : decode cX1_weighed 32 = .ok (.iload 5, 2) := by decide +kernel
theorem dX1_weighed_34 : decode cX1_weighed 34 = .ok (.iadd, 1) := by decide +kernel
theorem dX1_weighed_35 : decode cX1_weighed 35 = .ok (.iload 4, 2) := by decide +kernel
theorem dX1_weighed_37 : decode cX1_weighed 37 = .ok (.iadd, 1) := by decide +kernel
theorem dX1_weighed_38 : decode cX1_weighed 38 = .ok (.aload_n 0, 1) := by decide +kernel
theorem dX1_weighed_39 : decode cX1_weighed 39 = .ok (.aload_n 1, 1) := by decide +kernel
theorem dX1_weighed_40 : decode cX1_weighed 40 = .ok (.iload 5, 2) := by decide +kernel
theorem dX1_weighed_42 : decode cX1_weighed 42 = .ok (.iload 5, 2) := by decide +kernel
theorem dX1_weighed_44 : decode cX1_weighed 44 = .ok (.iload 4, 2) := by decide +kernel
theorem dX1_weighed_46 : decode cX1_weighed 46 = .ok (.iadd, 1) := by decide +kernel
theorem dX1_weighed_47 : decode cX1_weighed 47 = .ok (.invokevirtual 46, 3) := by decide +kernel
theorem dX1_weighed_50 : decode cX1_weighed 50 = .ok (.iastore, 1) := by decide +kernel
theorem dX1_weighed_51 : decode cX1_weighed 51 = .ok (.iinc 5 1, 3) := by decide +kernel
theorem dX1_weighed_54 : decode cX1_weighed 54 = .ok (.goto (-40), 3) := by decide +kernel
theorem dX1_weighed_57 : decode cX1_weighed 57 = .ok (.iinc 4 1, 3) := by decide +kernel
theorem dX1_weighed_60 : decode cX1_weighed 60 = .ok (.goto (-57), 3) := by decide +kernel
theorem dX1_weighed_63 : decode cX1_weighed 63 = .ok (.aload_n 0, 1) := by decide +kernel
theorem dX1_weighed_64 : decode cX1_weighed 64 = .ok (.iload_n 2, 1) := by decide +kernel
theorem dX1_weighed_65 : decode cX1_weighed 65 = .ok (.iload_n 3, 1) := by decide +kernel
theorem dX1_weighed_66 : decode cX1_weighed 66 = .ok (.invokevirtual 19, 3) := by decide +kernel
theorem dX1_weighed_69 : decode cX1_weighed 69 = .ok (.ireturn, 1) := by decide +kernel
theorem dX2_init_0 : decode cX2_init 0 = .ok (.aload_n 0, 1) := by decide +kernel
theorem dX2_init_1 : decode cX2_init 1 = .ok (.invokespecial 3, 3) := by decide +kernel
theorem dX2_init_4 : decode cX2_init 4 = .ok (.aload_n 0, 1) := by decide +kernel
theorem dX2_init_5 : decode cX2_init 5 = .ok (.bipush 10, 2) := by decide +kernel
theorem dX2_init_7 : decode cX2_init 7 = .ok (.newarray .int, 2) := by decide +kernel
theorem dX2_init_9 : decode cX2_init 9 = .ok (.putfield 9, 3) := by decide +kernel
theorem dX2_init_12 : decode cX2_init 12 = .ok (.aload_n 0, 1) := by decide +kernel
theorem dX2_init_13 : decode cX2_init 13 = .ok (.bipush 10, 2) := by decide +kernel
theorem dX2_init_15 : decode cX2_init 15 = .ok (.newarray .int, 2) := by decide +kernel
theorem dX2_init_17 : decode cX2_init 17 = .ok (.putfield 15, 3) := by decide +kernel
theorem dX2_init_20 : decode cX2_init 20 = .ok (.aload_n 0, 1) := by decide +kernel
theorem dX2_init_21 : decode cX2_init 21 = .ok (.bipush 10, 2) := by decide +kernel
theorem dX2_init_23 : decode cX2_init 23 = .ok (.newarray .int, 2) := by decide +kernel
theorem dX2_init_25 : decode cX2_init 25 = .ok (.putfield 18, 3) := by decide +kernel
theorem dX2_init_28 : decode cX2_init 28 = .ok (.aload_n 0, 1) := by decide +kernel
theorem dX2_init_29 : decode cX2_init 29 = .ok (.iconst 1, 1) := by decide +kernel
theorem dX2_init_30 : decode cX2_init 30 = .ok (.putfield 21, 3) := by decide +kernel
theorem dX2_init_33 : decode cX2_init 33 = .ok (.return_, 1) := by decide +kernel
theorem dX2_becomes_0 : decode cX2_becomes 0 = .ok (.aload_n 1, 1) := by decide +kernel
theorem dX2_becomes_1 : decode cX2_becomes 1 = .ok (.getfield 9, 3) := by decide +kernel
theorem dX2_becomes_4 : decode cX2_becomes 4 = .ok (.iconst 0, 1) := by decide +kernel
theorem dX2_becomes_5 : decode cX2_becomes 5 = .ok (.aload_n 0, 1) := by decide +kernel
theorem dX2_becomes_6 : decode cX2_becomes 6 = .ok (.getfield 9, 3) := by decide +kernel
theorem dX2_becomes_9 : decode cX2_becomes 9 = .ok (.iconst 0, 1) := by decide +kernel
theorem dX2_becomes_10 : decode cX2_becomes 10 = .ok (.bipush 10, 2) := by decide +kernel
theorem dX2_becomes_12 : decode cX2_becomes 12 = .ok (.invokestatic 25, 3) := by decide +kernel
theorem dX2_becomes_15 : decode cX2_becomes 15 = .ok (.aload_n 1, 1) := by decide +kernel
theorem dX2_becomes_16 : decode cX2_becomes 16 = .ok (.getfield 15, 3) := by decide +kernel
theorem dX2_becomes_19 : decode cX2_becomes 19 = .ok (.iconst 0, 1) := by decide +kernel
theorem dX2_becomes_20 : decode cX2_becomes 20 = .ok (.aload_n 0, 1) := by decide +kernel
theorem dX2_becomes_21 : decode cX2_becomes 21 = .ok (.getfield 15, 3) := by decide +kernel
theorem dX2_becomes_24 : decode cX2_becomes 24 = .ok (.iconst 0, 1) := by decide +kernel
theorem dX2_becomes_25 : decode cX2_becomes 25 = .ok (.bipush 10, 2) := by decide +kernel
theorem dX2_becomes_27 : decode cX2_becomes 27 = .ok (.invokestatic 25, 3) := by decide +kernel
theorem dX2_becomes_30 : decode cX2_becomes 30 = .ok (.aload_n 1, 1) := by decide +kernel
theorem dX2_becomes_31 : decode cX2_becomes 31 = .ok (.getfield 18, 3) := by decide +kernel
theorem dX2_becomes_34 : decode cX2_becomes 34 = .ok (.iconst 0, 1) := by decide +kernel
theorem dX2_becomes_35 : decode cX2_becomes 35 = .ok (.aload_n 0, 1) := by decide +kernel
theorem dX2_becomes_36 : decode cX2_becomes 36 = .ok (.getfield 18, 3) := by decide +kernel
theorem dX2_becomes_39 : decode cX2_becomes 39 = .ok (.iconst 0, 1) := by decide +kernel
theorem dX2_becomes_40 : decode cX2_becomes 40 = .ok (.bipush 10, 2) := by decide +kernel
theorem dX2_becomes_42 : decode cX2_becomes 42 = .ok (.invokestatic 25, 3) := by decide +kernel
theorem dX2_becomes_45 : decode cX2_becomes 45 = .ok (.aload_n 0, 1) := by decide +kernel
theorem dX2_becomes_46 : decode cX2_becomes 46 = .ok (.aload_n 1, 1) := by decide +kernel
theorem dX2_becomes_47 : decode cX2_becomes 47 = .ok (.getfield 31, 3) := by decide +kernel
theorem dX2_becomes_50 : decode cX2_becomes 50 = .ok (.putfield 31, 3) := by decide +kernel
theorem dX2_becomes_53 : decode cX2_becomes 53 = .ok (.aload_n 0, 1) := by decide +kernel
theorem dX2_becomes_54 : decode cX2_becomes 54 = .ok (.aload_n 1, 1) := by decide +kernel
theorem dX2_becomes_55 : decode cX2_becomes 55 = .ok (.getfield 34, 3) := by decide +kernel
theorem dX2_becomes_58 : decode cX2_becomes 58 = .ok (.putfield 34, 3) := by decide +kernel
theorem dX2_becomes_61 : decode cX2_becomes 61 = .ok (.aload_n 0, 1) := by decide +kernel
theorem dX2_becomes_62 : decode cX2_becomes 62 = .ok (.aload_n 1, 1) := by decide +kernel
theorem dX2_becomes_63 : decode cX2_becomes 63 = .ok (.getfield 37, 3) := by decide +kernel
theorem dX2_becomes_66 : decode cX2_becomes 66 = .ok (.putfield 37, 3) := by decide +kernel
theorem dX2_becomes_69 : decode cX2_becomes 69 = .ok (.aload_n 0, 1) := by decide +kernel
theorem dX2_becomes_70 : decode cX2_becomes 70 = .ok (.aload_n 1, 1) := by decide +kernel
theorem dX2_becomes_71 : decode cX2_becomes 71 = .ok (.getfield 21, 3) := by decide +kernel
theorem dX2_becomes_74 : decode cX2_becomes 74 = .ok (.putfield 21, 3) := by decide +kernel
theorem dX2_becomes_77 : decode cX2_becomes 77 = .ok (.aload_n 0, 1) := by decide +kernel
theorem dX2_becomes_78 : decode cX2_becomes 78 = .ok (.aload_n 1, 1) := by decide +kernel
theorem dX2_becomes_79 : decode cX2_becomes 79 = .ok (.getfield 40, 3) := by decide +kernel
theorem dX2_becomes_82 : decode cX2_becomes 82 = .ok (.putfield 40, 3) := by decide +kernel
theorem dX2_becomes_85 : decode cX2_becomes 85 = .ok (.aload_n 0, 1) := by decide +kernel
theorem dX2_becomes_86 : decode cX2_becomes 86 = .ok (.aload_n 1, 1) := by decide +kernel
theorem dX2_becomes_87 : decode cX2_becomes 87 = .ok (.getfield 43, 3) := by decide +kernel
theorem dX2_becomes_90 : decode cX2_becomes 90 = .ok (.putfield 43, 3) := by decide +kernel
theorem dX2_becomes_93 : decode cX2_becomes 93 = .ok (.aload_n 0, 1) := by decide +kernel
theorem dX2_becomes_94 : decode cX2_becomes 94 = .ok (.aload_n 1, 1) := by decide +kernel
theorem dX2_becomes_95 : decode cX2_becomes 95 = .ok (.getfield 46, 3) := by decide +kernel
theorem dX2_becomes_98 : decode cX2_becomes 98 = .ok (.putfield 46, 3) := by decide +kernel
theorem dX2_becomes_101 : decode cX2_becomes 101 = .ok (.aload_n 0, 1) := by decide +kernel
theorem dX2_becomes_102 : decode cX2_becomes 102 = .ok (.aload_n 1, 1) := by decide +kernel
theorem dX2_becomes_103 : decode cX2_becomes 103 = .ok (.getfield 49, 3) := by decide +kernel
theorem dX2_becomes_106 : decode cX2_becomes 106 = .ok (.putfield 49, 3) := by decide +kernel
theorem dX2_becomes_109 : decode cX2_becomes 109 = .ok (.return_, 1) := by decide +kernel
theorem dX2_has_0 : decode cX2_has 0 = .ok (.iload_n 1, 1) := by decide +kernel
theorem dX2_has_1 : decode cX2_has 1 = .ok (.ifCond .lt 15, 3) := by decide +kernel
theorem dX2_has_4 : decode cX2_has 4 = .ok (.iload_n 1, 1) := by decide +kernel
theorem dX2_has_5 : decode cX2_has 5 = .ok (.aload_n 0, 1) := by decide +kernel
theorem dX2_has_6 : decode cX2_has 6 = .ok (.getfield 31, 3) := by decide +kernel
theorem dX2_has_9 : decode cX2_has 9 = .ok (.if_icmp .ge 7, 3) := by decide +kernel
theorem dX2_has_12 : decode cX2_has 12 = .ok (.iconst 1, 1) := by decide +kernel
theorem dX2_has_13 : decode cX2_has 13 = .ok (.goto 4, 3) := by decide +kernel
theorem dX2_has_16 : decode cX2_has 16 = .ok (.iconst 0, 1) := by decide +kernel
theorem dX2_has_17 : decode cX2_has 17 = .ok (.ireturn, 1) := by decide +kernel
theorem dX2_isStretch_0 : decode cX2_isStretch 0 = .ok (.aload_n 0, 1) := by decide +kernel
theorem dX2_isStretch_1 : decode cX2_isStretch 1 = .ok (.iload_n 1, 1) := by decide +kernel
theorem dX2_isStretch_2 : decode cX2_isStretch 2 = .ok (.invokevirtual 52, 3) := by decide +kernel
theorem dX2_isStretch_5 : decode cX2_isStretch 5 = .ok (.ifCond .eq 20, 3) := by decide +kernel
theorem dX2_isStretch_8 : decode cX2_isStretch 8 = .ok (.aload_n 0, 1) := by decide +kernel
theorem dX2_isStretch_9 : decode cX2_isStretch 9 = .ok (.iload_n 2, 1) := by decide +kernel
theorem dX2_isStretch_10 : decode cX2_isStretch 10 = .ok (.invokevirtual 52, 3) := by decide +kernel
theorem dX2_isStretch_13 : decode cX2_isStretch 13 = .ok (.ifCond .eq 12, 3) := by decide +kernel
theorem dX2_isStretch_16 : decode cX2_isStretch 16 = .ok (.iload_n 1, 1) := by decide +kernel
theorem dX2_isStretch_17 : decode cX2_isStretch 17 = .ok (.iload_n 2, 1) := by decide +kernel
theorem dX2_isStretch_18 : decode cX2_isStretch 18 = .ok (.if_icmp .gt 7, 3) := by decide +kernel
theorem dX2_isStretch_21 : decode cX2_isStretch 21 = .ok (.iconst 1, 1) := by decide +kernel
theorem dX2_isStretch_22 : decode cX2_isStretch 22 = .ok (.goto 4, 3) := by decide +kernel
theorem dX2_isStretch_25 : decode cX2_isStretch 25 = .ok (.iconst 0, 1) := by decide +kernel
theorem dX2_isStretch_26 : decode cX2_isStretch 26 = .ok (.ireturn, 1) := by decide +kernel
theorem dX2_isSet_0 : decode cX2_isSet 0 = .ok (.iload_n 1, 1) := by decide +kernel
theorem dX2_isSet_1 : decode cX2_isSet 1 = .ok (.ifCond .lt 17, 3) := by decide +kernel
theorem dX2_isSet_4 : decode cX2_isSet 4 = .ok (.iload_n 1, 1) := by decide +kernel
theorem dX2_isSet_5 : decode cX2_isSet 5 = .ok (.iconst 1, 1) := by decide +kernel
theorem dX2_isSet_6 : decode cX2_isSet 6 = .ok (.aload_n 0, 1) := by decide +kernel
theorem dX2_isSet_7 : decode cX2_isSet 7 = .ok (.getfield 31, 3) := by decide +kernel
theorem dX2_isSet_10 : decode cX2_isSet 10 = .ok (.ishl, 1) := by decide +kernel
theorem dX2_isSet_11 : decode cX2_isSet 11 = .ok (.if_icmp .ge 7, 3) := by decide +kernel
theorem dX2_isSet_14 : decode cX2_isSet 14 = .ok (.iconst 1, 1) := by decide +kernel
theorem dX2_isSet_15 : decode cX2_isSet 15 = .ok (.goto 4, 3) := by decide +kernel
theorem dX2_isSet_18 : decode cX2_isSet 18 = .ok (.iconst 0, 1) := by decide +kernel
theorem dX2_isSet_19 : decode cX2_isSet 19 = .ok (.ireturn, 1) := by decide +kernel
theorem dX2_isFull_0 : decode cX2_isFull 0 = .ok (.aload_n 0, 1) := by decide +kernel
theorem dX2_isFull_1 : decode cX2_isFull 1 = .ok (.getfield 31, 3) := by decide +kernel
theorem dX2_isFull_4 : decode cX2_isFull 4 = .ok (.bipush 10, 2) := by decide +kernel
theorem dX2_isFull_6 : decode cX2_isFull 6 = .ok (.if_icmp .lt 7, 3) := by decide +kernel
theorem dX2_isFull_9 : decode cX2_isFull 9 = .ok (.iconst 1, 1) := by decide +kernel
theorem dX2_isFull_10 : decode cX2_isFull 10 = .ok (.goto 4, 3) := by decide +kernel
theorem dX2_isFull_13 : decode cX2_isFull 13 = .ok (.iconst 0, 1) := by decide +kernel
theorem dX2_isFull_14 : decode cX2_isFull 14 = .ok (.ireturn, 1) := by decide +kernel
theorem dX2_isWhole_0 : decode cX2_isWhole 0 = .ok (.aload_n 0, 1) := by decide +kernel
theorem dX2_isWhole_1 : decode cX2_isWhole 1 = .ok (.getfield 34, 3) := by decide +kernel
theorem dX2_isWhole_4 : decode cX2_isWhole 4 = .ok (.iload_n 1, 1) := by decide +kernel
theorem dX2_isWhole_5 : decode cX2_isWhole 5 = .ok (.ishr, 1) := by decide +kernel
theorem dX2_isWhole_6 : decode cX2_isWhole 6 = .ok (.iconst 1, 1) := by decide +kernel
theorem dX2_isWhole_7 : decode cX2_isWhole 7 = .ok (.iand, 1) := by decide +kernel
theorem dX2_isWhole_8 : decode cX2_isWhole 8 = .ok (.iconst 1, 1) := by decide +kernel
theorem dX2_isWhole_9 : decode cX2_isWhole 9 = .ok (.if_icmp .ne 7, 3) := by decide +kernel
theorem dX2_isWhole_12 : decode cX2_isWhole 12 = .ok (.iconst 1, 1) := by decide +kernel
theorem dX2_isWhole_13 : decode cX2_isWhole 13 = .ok (.goto 4, 3) := by decide +kernel
theorem dX2_isWhole_16 : decode cX2_isWhole 16 = .ok (.iconst 0, 1) := by decide +kernel
theorem dX2_isWhole_17 : decode cX2_isWhole 17 = .ok (.ireturn, 1) := by decide +kernel
theorem dX2_isSeated_0 : decode cX2_isSeated 0 = .ok (.aload_n 0, 1) := by decide +kernel
theorem dX2_isSeated_1 : decode cX2_isSeated 1 = .ok (.getfield 37, 3) := by decide +kernel
theorem dX2_isSeated_4 : decode cX2_isSeated 4 = .ok (.iload_n 1, 1) := by decide +kernel
theorem dX2_isSeated_5 : decode cX2_isSeated 5 = .ok (.ishr, 1) := by decide +kernel
theorem dX2_isSeated_6 : decode cX2_isSeated 6 = .ok (.iconst 1, 1) := by decide +kernel
theorem dX2_isSeated_7 : decode cX2_isSeated 7 = .ok (.iand, 1) := by decide +kernel
theorem dX2_isSeated_8 : decode cX2_isSeated 8 = .ok (.iconst 1, 1) := by decide +kernel
theorem dX2_isSeated_9 : decode cX2_isSeated 9 = .ok (.if_icmp .ne 7, 3) := by decide +kernel
theorem dX2_isSeated_12 : decode cX2_isSeated 12 = .ok (.iconst 1, 1) := by decide +kernel
theorem dX2_isSeated_13 : decode cX2_isSeated 13 = .ok (.goto 4, 3) := by decide +kernel
theorem dX2_isSeated_16 : decode cX2_isSeated 16 = .ok (.iconst 0, 1) := by decide +kernel
theorem dX2_isSeated_17 : decode cX2_isSeated 17 = .ok (.ireturn, 1) := by decide +kernel
theorem dX2_lifeOf_0 : decode cX2_lifeOf 0 = .ok (.aload_n 0, 1) := by decide +kernel
theorem dX2_lifeOf_1 : decode cX2_lifeOf 1 = .ok (.getfield 9, 3) := by decide +kernel
theorem dX2_lifeOf_4 : decode cX2_lifeOf 4 = .ok (.iload_n 1, 1) := by decide +kernel
theorem dX2_lifeOf_5 : decode cX2_lifeOf 5 = .ok (.iaload, 1) := by decide +kernel
theorem dX2_lifeOf_6 : decode cX2_lifeOf 6 = .ok (.aload_n 0, 1) := by decide +kernel
theorem dX2_lifeOf_7 : decode cX2_lifeOf 7 = .ok (.getfield 15, 3) := by decide +kernel
theorem dX2_lifeOf_10 : decode cX2_lifeOf 10 = .ok (.iload_n 1, 1) := by decide +kernel
theorem dX2_lifeOf_11 : decode cX2_lifeOf 11 = .ok (.iaload, 1) := by decide +kernel
theorem dX2_lifeOf_12 : decode cX2_lifeOf 12 = .ok (.invokestatic 56, 3) := by decide +kernel
theorem dX2_lifeOf_15 : decode cX2_lifeOf 15 = .ok (.ireturn, 1) := by decide +kernel
theorem dX2_isBrown_0 : decode cX2_isBrown 0 = .ok (.aload_n 0, 1) := by decide +kernel
theorem dX2_isBrown_1 : decode cX2_isBrown 1 = .ok (.getfield 18, 3) := by decide +kernel
theorem dX2_isBrown_4 : decode cX2_isBrown 4 = .ok (.iload_n 1, 1) := by decide +kernel
theorem dX2_isBrown_5 : decode cX2_isBrown 5 = .ok (.iaload, 1) := by decide +kernel
theorem dX2_isBrown_6 : decode cX2_isBrown 6 = .ok (.aload_n 0, 1) := by decide +kernel
theorem dX2_isBrown_7 : decode cX2_isBrown 7 = .ok (.iload_n 1, 1) := by decide +kernel
theorem dX2_isBrown_8 : decode cX2_isBrown 8 = .ok (.invokevirtual 62, 3) := by decide +kernel
theorem dX2_isBrown_11 : decode cX2_isBrown 11 = .ok (.iconst 2, 1) := by decide +kernel
theorem dX2_isBrown_12 : decode cX2_isBrown 12 = .ok (.idiv, 1) := by decide +kernel
theorem dX2_isBrown_13 : decode cX2_isBrown 13 = .ok (.if_icmp .lt 7, 3) := by decide +kernel
theorem dX2_isBrown_16 : decode cX2_isBrown 16 = .ok (.iconst 1, 1) := by decide +kernel
theorem dX2_isBrown_17 : decode cX2_isBrown 17 = .ok (.goto 4, 3) := by decide +kernel
theorem dX2_isBrown_20 : decode cX2_isBrown 20 = .ok (.iconst 0, 1) := by decide +kernel
theorem dX2_isBrown_21 : decode cX2_isBrown 21 = .ok (.ireturn, 1) := by decide +kernel
theorem dX2_oddsOf_0 : decode cX2_oddsOf 0 = .ok (.aload_n 0, 1) := by decide +kernel
theorem dX2_oddsOf_1 : decode cX2_oddsOf 1 = .ok (.getfield 18, 3) := by decide +kernel
theorem dX2_oddsOf_4 : decode cX2_oddsOf 4 = .ok (.iload_n 1, 1) := by decide +kernel
theorem dX2_oddsOf_5 : decode cX2_oddsOf 5 = .ok (.iaload, 1) := by decide +kernel
theorem dX2_oddsOf_6 : decode cX2_oddsOf 6 = .ok (.iconst 1, 1) := by decide +kernel
theorem dX2_oddsOf_7 : decode cX2_oddsOf 7 = .ok (.iadd, 1) := by decide +kernel
theorem dX2_oddsOf_8 : decode cX2_oddsOf 8 = .ok (.ireturn, 1) := by decide +kernel
theorem dX2_oddsOf__0 : decode cX2_oddsOf_ 0 = .ok (.iconst 0, 1) := by decide +kernel
theorem dX2_oddsOf__1 : decode cX2_oddsOf_ 1 = .ok (.istore_n 3, 1) := by decide +kernel
theorem dX2_oddsOf__2 : decode cX2_oddsOf_ 2 = .ok (.iload_n 1, 1) := by decide +kernel
theorem dX2_oddsOf__3 : decode cX2_oddsOf_ 3 = .ok (.istore 4, 2) := by decide +kernel
theorem dX2_oddsOf__5 : decode cX2_oddsOf_ 5 = .ok (.iload 4, 2) := by decide +kernel
theorem dX2_oddsOf__7 : decode cX2_oddsOf_ 7 = .ok (.iload_n 2, 1) := by decide +kernel
theorem dX2_oddsOf__8 : decode cX2_oddsOf_ 8 = .ok (.if_icmp .gt 18, 3) := by decide +kernel
theorem dX2_oddsOf__11 : decode cX2_oddsOf_ 11 = .ok (.iload_n 3, 1) := by decide +kernel
theorem dX2_oddsOf__12 : decode cX2_oddsOf_ 12 = .ok (.aload_n 0, 1) := by decide +kernel
theorem dX2_oddsOf__13 : decode cX2_oddsOf_ 13 = .ok (.iload 4, 2) := by decide +kernel
theorem dX2_oddsOf__15 : decode cX2_oddsOf_ 15 = .ok (.invokevirtual 66, 3) := by decide +kernel
theorem dX2_oddsOf__18 : decode cX2_oddsOf_ 18 = .ok (.iadd, 1) := by decide +kernel
theorem dX2_oddsOf__19 : decode cX2_oddsOf_ 19 = .ok (.istore_n 3, 1) := by decide +kernel
theorem dX2_oddsOf__20 : decode cX2_oddsOf_ 20 = .ok (.iinc 4 1, 3) := by decide +kernel
theorem dX2_oddsOf__23 : decode cX2_oddsOf_ 23 = .ok (.goto (-18), 3) := by decide +kernel
theorem dX2_oddsOf__26 : decode cX2_oddsOf_ 26 = .ok (.iload_n 3, 1) := by decide +kernel
theorem dX2_oddsOf__27 : decode cX2_oddsOf_ 27 = .ok (.ireturn, 1) := by decide +kernel
theorem dX2_hang_0 : decode cX2_hang 0 = .ok (.aload_n 0, 1) := by decide +kernel
theorem dX2_hang_1 : decode cX2_hang 1 = .ok (.invokevirtual 69, 3) := by decide +kernel
theorem dX2_hang_4 : decode cX2_hang 4 = .ok (.ifCond .eq 4, 3) := by decide +kernel
theorem dX2_hang_7 : decode cX2_hang 7 = .ok (.return_, 1) := by decide +kernel
theorem dX2_hang_8 : decode cX2_hang 8 = .ok (.aload_n 0, 1) := by decide +kernel
theorem dX2_hang_9 : decode cX2_hang 9 = .ok (.dup, 1) := by decide +kernel
theorem dX2_hang_10 : decode cX2_hang 10 = .ok (.getfield 31, 3) := by decide +kernel
theorem dX2_hang_13 : decode cX2_hang 13 = .ok (.iconst 1, 1) := by decide +kernel
theorem dX2_hang_14 : decode cX2_hang 14 = .ok (.iadd, 1) := by decide +kernel
theorem dX2_hang_15 : decode cX2_hang 15 = .ok (.putfield 31, 3) := by decide +kernel
theorem dX2_hang_18 : decode cX2_hang 18 = .ok (.aload_n 0, 1) := by decide +kernel
theorem dX2_hang_19 : decode cX2_hang 19 = .ok (.aload_n 0, 1) := by decide +kernel
theorem dX2_hang_20 : decode cX2_hang 20 = .ok (.getfield 31, 3) := by decide +kernel
theorem dX2_hang_23 : decode cX2_hang 23 = .ok (.iconst 1, 1) := by decide +kernel
theorem dX2_hang_24 : decode cX2_hang 24 = .ok (.isub, 1) := by decide +kernel
theorem dX2_hang_25 : decode cX2_hang 25 = .ok (.iload_n 1, 1) := by decide +kernel
theorem dX2_hang_26 : decode cX2_hang 26 = .ok (.iload_n 2, 1) := by decide +kernel
theorem dX2_hang_27 : decode cX2_hang 27 = .ok (.invokevirtual 73, 3) := by decide +kernel
theorem dX2_hang_30 : decode cX2_hang 30 = .ok (.return_, 1) := by decide +kernel
theorem dX2_renew_0 : decode cX2_renew 0 = .ok (.aload_n 0, 1) := by decide +kernel
theorem dX2_renew_1 : decode cX2_renew 1 = .ok (.getfield 9, 3) := by decide +kernel
theorem dX2_renew_4 : decode cX2_renew 4 = .ok (.iload_n 1, 1) := by decide +kernel
theorem dX2_renew_5 : decode cX2_renew 5 = .ok (.iload_n 2, 1) := by decide +kernel
theorem dX2_renew_6 : decode cX2_renew 6 = .ok (.iastore, 1) := by decide +kernel
theorem dX2_renew_7 : decode cX2_renew 7 = .ok (.aload_n 0, 1) := by decide +kernel
theorem dX2_renew_8 : decode cX2_renew 8 = .ok (.getfield 15, 3) := by decide +kernel
theorem dX2_renew_11 : decode cX2_renew 11 = .ok (.iload_n 1, 1) := by decide +kernel
theorem dX2_renew_12 : decode cX2_renew 12 = .ok (.iload_n 3, 1) := by decide +kernel
theorem dX2_renew_13 : decode cX2_renew 13 = .ok (.iastore, 1) := by decide +kernel
theorem dX2_renew_14 : decode cX2_renew 14 = .ok (.aload_n 0, 1) := by decide +kernel
theorem dX2_renew_15 : decode cX2_renew 15 = .ok (.getfield 18, 3) := by decide +kernel
theorem dX2_renew_18 : decode cX2_renew 18 = .ok (.iload_n 1, 1) := by decide +kernel
theorem dX2_renew_19 : decode cX2_renew 19 = .ok (.iconst 0, 1) := by decide +kernel
theorem dX2_renew_20 : decode cX2_renew 20 = .ok (.iastore, 1) := by decide +kernel
theorem dX2_renew_21 : decode cX2_renew 21 = .ok (.aload_n 0, 1) := by decide +kernel
theorem dX2_renew_22 : decode cX2_renew 22 = .ok (.dup, 1) := by decide +kernel
theorem dX2_renew_23 : decode cX2_renew 23 = .ok (.getfield 34, 3) := by decide +kernel
theorem dX2_renew_26 : decode cX2_renew 26 = .ok (.iconst 1, 1) := by decide +kernel
theorem dX2_renew_27 : decode cX2_renew 27 = .ok (.iload_n 1, 1) := by decide +kernel
theorem dX2_renew_28 : decode cX2_renew 28 = .ok (.ishl, 1) := by decide +kernel
theorem dX2_renew_29 : decode cX2_renew 29 = .ok (.ior, 1) := by decide +kernel
theorem dX2_renew_30 : decode cX2_renew 30 = .ok (.putfield 34, 3) := by decide +kernel
theorem dX2_renew_33 : decode cX2_renew 33 = .ok (.aload_n 0, 1) := by decide +kernel
theorem dX2_renew_34 : decode cX2_renew 34 = .ok (.dup, 1) := by decide +kernel
theorem dX2_renew_35 : decode cX2_renew 35 = .ok (.getfield 37, 3) := by decide +kernel
theorem dX2_renew_38 : decode cX2_renew 38 = .ok (.iconst 1, 1) := by decide +kernel
theorem dX2_renew_39 : decode cX2_renew 39 = .ok (.iload_n 1, 1) := by decide +kernel
theorem dX2_renew_40 : decode cX2_renew 40 = .ok (.ishl, 1) := by decide +kernel
theorem dX2_renew_41 : decode cX2_renew 41 = .ok (.ior, 1) := by decide +kernel
theorem dX2_renew_42 : decode cX2_renew 42 = .ok (.putfield 37, 3) := by decide +kernel
theorem dX2_renew_45 : decode cX2_renew 45 = .ok (.return_, 1) := by decide +kernel
theorem dX2_breakOrMend_0 : decode cX2_breakOrMend 0 = .ok (.aload_n 0, 1) := by decide +kernel
theorem dX2_breakOrMend_1 : decode cX2_breakOrMend 1 = .ok (.dup, 1) := by decide +kernel
theorem dX2_breakOrMend_2 : decode cX2_breakOrMend 2 = .ok (.getfield 34, 3) := by decide +kernel
theorem dX2_breakOrMend_5 : decode cX2_breakOrMend 5 = .ok (.iconst 1, 1) := by decide +kernel
theorem dX2_breakOrMend_6 : decode cX2_breakOrMend 6 = .ok (.iload_n 1, 1) := by decide +kernel
theorem dX2_breakOrMend_7 : decode cX2_breakOrMend 7 = .ok (.ishl, 1) := by decide +kernel
theorem dX2_breakOrMend_8 : decode cX2_breakOrMend 8 = .ok (.ixor, 1) := by decide +kernel
theorem dX2_breakOrMend_9 : decode cX2_breakOrMend 9 = .ok (.putfield 34, 3) := by decide +kernel
theorem dX2_breakOrMend_12 : decode cX2_breakOrMend 12 = .ok (.return_, 1) := by decide +kernel
theorem dX2_putSpare_0 : decode cX2_putSpare 0 = .ok (.aload_n 0, 1) := by decide +kernel
theorem dX2_putSpare_1 : decode cX2_putSpare 1 = .ok (.iload_n 1, 1) := by decide +kernel
theorem dX2_putSpare_2 : decode cX2_putSpare 2 = .ok (.bipush 6, 2) := by decide +kernel
theorem dX2_putSpare_4 : decode cX2_putSpare 4 = .ok (.iconst 5, 1) := by decide +kernel
theorem dX2_putSpare_5 : decode cX2_putSpare 5 = .ok (.invokevirtual 73, 3) := by decide +kernel
theorem dX2_putSpare_8 : decode cX2_putSpare 8 = .ok (.aload_n 0, 1) := by decide +kernel
theorem dX2_putSpare_9 : decode cX2_putSpare 9 = .ok (.dup, 1) := by decide +kernel
theorem dX2_putSpare_10 : decode cX2_putSpare 10 = .ok (.getfield 21, 3) := by decide +kernel
theorem dX2_putSpare_13 : decode cX2_putSpare 13 = .ok (.iconst 1, 1) := by decide +kernel
theorem dX2_putSpare_14 : decode cX2_putSpare 14 = .ok (.isub, 1) := by decide +kernel
theorem dX2_putSpare_15 : decode cX2_putSpare 15 = .ok (.putfield 21, 3) := by decide +kernel
theorem dX2_putSpare_18 : decode cX2_putSpare 18 = .ok (.return_, 1) := by decide +kernel
theorem dX2_twistIn_0 : decode cX2_twistIn 0 = .ok (.aload_n 0, 1) := by decide +kernel
theorem dX2_twistIn_1 : decode cX2_twistIn 1 = .ok (.getfield 46, 3) := by decide +kernel
theorem dX2_twistIn_4 : decode cX2_twistIn 4 = .ok (.iload_n 1, 1) := by decide +kernel
theorem dX2_twistIn_5 : decode cX2_twistIn 5 = .ok (.invokestatic 77, 3) := by decide +kernel
theorem dX2_twistIn_8 : decode cX2_twistIn 8 = .ok (.istore_n 2, 1) := by decide +kernel
theorem dX2_twistIn_9 : decode cX2_twistIn 9 = .ok (.aload_n 0, 1) := by decide +kernel
theorem dX2_twistIn_10 : decode cX2_twistIn 10 = .ok (.iload_n 2, 1) := by decide +kernel
theorem dX2_twistIn_11 : decode cX2_twistIn 11 = .ok (.invokevirtual 80, 3) := by decide +kernel
theorem dX2_twistIn_14 : decode cX2_twistIn 14 = .ok (.aload_n 0, 1) := by decide +kernel
theorem dX2_twistIn_15 : decode cX2_twistIn 15 = .ok (.iload_n 1, 1) := by decide +kernel
theorem dX2_twistIn_16 : decode cX2_twistIn 16 = .ok (.putfield 46, 3) := by decide +kernel
theorem dX2_twistIn_19 : decode cX2_twistIn 19 = .ok (.aload_n 0, 1) := by decide +kernel
theorem dX2_twistIn_20 : decode cX2_twistIn 20 = .ok (.iload_n 1, 1) := by decide +kernel
theorem dX2_twistIn_21 : decode cX2_twistIn 21 = .ok (.invokevirtual 84, 3) := by decide +kernel
theorem dX2_twistIn_24 : decode cX2_twistIn 24 = .ok (.iload_n 2, 1) := by decide +kernel
theorem dX2_twistIn_25 : decode cX2_twistIn 25 = .ok (.ireturn, 1) := by decide +kernel
theorem dX2_trySeconds_0 : decode cX2_trySeconds 0 = .ok (.bipush 8, 2) := by decide +kernel
theorem dX2_trySeconds_2 : decode cX2_trySeconds 2 = .ok (.iload_n 0, 1) := by decide +kernel
theorem dX2_trySeconds_3 : decode cX2_trySeconds 3 = .ok (.iload_n 1, 1) := by decide +kernel
theorem dX2_trySeconds_4 : decode cX2_trySeconds 4 = .ok (.isub, 1) := by decide +kernel
theorem dX2_trySeconds_5 : decode cX2_trySeconds 5 = .ok (.invokestatic 87, 3) := by decide +kernel
theorem dX2_trySeconds_8 : decode cX2_trySeconds 8 = .ok (.iadd, 1) := by decide +kernel
theorem dX2_trySeconds_9 : decode cX2_trySeconds 9 = .ok (.ireturn, 1) := by decide +kernel
theorem dX2_spend_0 : decode cX2_spend 0 = .ok (.aload_n 0, 1) := by decide +kernel
theorem dX2_spend_1 : decode cX2_spend 1 = .ok (.aload_n 0, 1) := by decide +kernel
theorem dX2_spend_2 : decode cX2_spend 2 = .ok (.getfield 49, 3) := by decide +kernel
theorem dX2_spend_5 : decode cX2_spend 5 = .ok (.iload_n 1, 1) := by decide +kernel
theorem dX2_spend_6 : decode cX2_spend 6 = .ok (.iadd, 1) := by decide +kernel
theorem dX2_spend_7 : decode cX2_spend 7 = .ok (.sipush 9999, 3) := by decide +kernel
theorem dX2_spend_10 : decode cX2_spend 10 = .ok (.invokestatic 92, 3) := by decide +kernel
theorem dX2_spend_13 : decode cX2_spend 13 = .ok (.putfield 49, 3) := by decide +kernel
theorem dX2_spend_16 : decode cX2_spend 16 = .ok (.return_, 1) := by decide +kernel
theorem dX2_divides_0 : decode cX2_divides 0 = .ok (.iload_n 0, 1) := by decide +kernel
theorem dX2_divides_1 : decode cX2_divides 1 = .ok (.ifCond .le 13, 3) := by decide +kernel
theorem dX2_divides_4 : decode cX2_divides 4 = .ok (.iload_n 1, 1) := by decide +kernel
theorem dX2_divides_5 : decode cX2_divides 5 = .ok (.iload_n 0, 1) := by decide +kernel
theorem dX2_divides_6 : decode cX2_divides 6 = .ok (.irem, 1) := by decide +kernel
theorem dX2_divides_7 : decode cX2_divides 7 = .ok (.ifCond .ne 7, 3) := by decide +kernel
theorem dX2_divides_10 : decode cX2_divides 10 = .ok (.iconst 1, 1) := by decide +kernel
theorem dX2_divides_11 : decode cX2_divides 11 = .ok (.goto 4, 3) := by decide +kernel
theorem dX2_divides_14 : decode cX2_divides 14 = .ok (.iconst 0, 1) := by decide +kernel
theorem dX2_divides_15 : decode cX2_divides 15 = .ok (.ireturn, 1) := by decide +kernel
theorem dX2_leads_0 : decode cX2_leads 0 = .ok (.aload_n 0, 1) := by decide +kernel
theorem dX2_leads_1 : decode cX2_leads 1 = .ok (.getfield 9, 3) := by decide +kernel
theorem dX2_leads_4 : decode cX2_leads 4 = .ok (.iload_n 1, 1) := by decide +kernel
theorem dX2_leads_5 : decode cX2_leads 5 = .ok (.iaload, 1) := by decide +kernel
theorem dX2_leads_6 : decode cX2_leads 6 = .ok (.tableswitch 123 1 4 #[30, 52, 92, 94], 30) := by decide +kernel
theorem dX2_leads_36 : decode cX2_leads 36 = .ok (.aload_n 0, 1) := by decide +kernel
theorem dX2_leads_37 : decode cX2_leads 37 = .ok (.iload_n 1, 1) := by decide +kernel
theorem dX2_leads_38 : decode cX2_leads 38 = .ok (.invokevirtual 95, 3) := by decide +kernel
theorem dX2_leads_41 : decode cX2_leads 41 = .ok (.ifCond .eq 15, 3) := by decide +kernel
theorem dX2_leads_44 : decode cX2_leads 44 = .ok (.aload_n 0, 1) := by decide +kernel
theorem dX2_leads_45 : decode cX2_leads 45 = .ok (.iload_n 1, 1) := by decide +kernel
theorem dX2_leads_46 : decode cX2_leads 46 = .ok (.invokevirtual 98, 3) := by decide +kernel
theorem dX2_leads_49 : decode cX2_leads 49 = .ok (.ifCond .eq 7, 3) := by decide +kernel
theorem dX2_leads_52 : decode cX2_leads 52 = .ok (.iconst 1, 1) := by decide +kernel
theorem dX2_leads_53 : decode cX2_leads 53 = .ok (.goto 4, 3) := by decide +kernel
theorem dX2_leads_56 : decode cX2_leads 56 = .ok (.iconst 0, 1) := by decide +kernel
theorem dX2_leads_57 : decode cX2_leads 57 = .ok (.ireturn, 1) := by decide +kernel
theorem dX2_leads_58 : decode cX2_leads 58 = .ok (.aload_n 0, 1) := by decide +kernel
theorem dX2_leads_59 : decode cX2_leads 59 = .ok (.iload_n 1, 1) := by decide +kernel
theorem dX2_leads_60 : decode cX2_leads 60 = .ok (.invokevirtual 95, 3) := by decide +kernel
theorem dX2_leads_63 : decode cX2_leads 63 = .ok (.ifCond .eq 33, 3) := by decide +kernel
theorem dX2_leads_66 : decode cX2_leads 66 = .ok (.aload_n 0, 1) := by decide +kernel
theorem dX2_leads_67 : decode cX2_leads 67 = .ok (.getfield 18, 3) := by decide +kernel
theorem dX2_leads_70 : decode cX2_leads 70 = .ok (.iload_n 1, 1) := by decide +kernel
theorem dX2_leads_71 : decode cX2_leads 71 = .ok (.iaload, 1) := by decide +kernel
theorem dX2_leads_72 : decode cX2_leads 72 = .ok (.bipush 10, 2) := by decide +kernel
theorem dX2_leads_74 : decode cX2_leads 74 = .ok (.aload_n 0, 1) := by decide +kernel
theorem dX2_leads_75 : decode cX2_leads 75 = .ok (.getfield 15, 3) := by decide +kernel
theorem dX2_leads_78 : decode cX2_leads 78 = .ok (.iload_n 1, 1) := by decide +kernel
theorem dX2_leads_79 : decode cX2_leads 79 = .ok (.iaload, 1) := by decide +kernel
theorem dX2_leads_80 : decode cX2_leads 80 = .ok (.imul, 1) := by decide +kernel
theorem dX2_leads_81 : decode cX2_leads 81 = .ok (.if_icmp .lt 11, 3) := by decide +kernel
theorem dX2_leads_84 : decode cX2_leads 84 = .ok (.iconst 2, 1) := by decide +kernel
theorem dX2_leads_85 : decode cX2_leads 85 = .ok (.iload_n 2, 1) := by decide +kernel
theorem dX2_leads_86 : decode cX2_leads 86 = .ok (.invokestatic 101, 3) := by decide +kernel
theorem dX2_leads_89 : decode cX2_leads 89 = .ok (.ifCond .eq 7, 3) := by decide +kernel
theorem dX2_leads_92 : decode cX2_leads 92 = .ok (.iconst 1, 1) := by decide +kernel
theorem dX2_leads_93 : decode cX2_leads 93 = .ok (.goto 4, 3) := by decide +kernel
theorem dX2_leads_96 : decode cX2_leads 96 = .ok (.iconst 0, 1) := by decide +kernel
theorem dX2_leads_97 : decode cX2_leads 97 = .ok (.ireturn, 1) := by decide +kernel
theorem dX2_leads_98 : decode cX2_leads 98 = .ok (.iconst 1, 1) := by decide +kernel
theorem dX2_leads_99 : decode cX2_leads 99 = .ok (.ireturn, 1) := by decide +kernel
theorem dX2_leads_100 : decode cX2_leads 100 = .ok (.aload_n 0, 1) := by decide +kernel
theorem dX2_leads_101 : decode cX2_leads 101 = .ok (.iload_n 1, 1) := by decide +kernel
theorem dX2_leads_102 : decode cX2_leads 102 = .ok (.invokevirtual 95, 3) := by decide +kernel
theorem dX2_leads_105 : decode cX2_leads 105 = .ok (.ifCond .eq 22, 3) := by decide +kernel
theorem dX2_leads_108 : decode cX2_leads 108 = .ok (.aload_n 0, 1) := by decide +kernel
theorem dX2_leads_109 : decode cX2_leads 109 = .ok (.getfield 15, 3) := by decide +kernel
theorem dX2_leads_112 : decode cX2_leads 112 = .ok (.iload_n 1, 1) := by decide +kernel
theorem dX2_leads_113 : decode cX2_leads 113 = .ok (.iaload, 1) := by decide +kernel
theorem dX2_leads_114 : decode cX2_leads 114 = .ok (.iconst 2, 1) := by decide +kernel
theorem dX2_leads_115 : decode cX2_leads 115 = .ok (.iadd, 1) := by decide +kernel
theorem dX2_leads_116 : decode cX2_leads 116 = .ok (.iload_n 2, 1) := by decide +kernel
theorem dX2_leads_117 : decode cX2_leads 117 = .ok (.invokestatic 101, 3) := by decide +kernel
theorem dX2_leads_120 : decode cX2_leads 120 = .ok (.ifCond .ne 7, 3) := by decide +kernel
theorem dX2_leads_123 : decode cX2_leads 123 = .ok (.iconst 1, 1) := by decide +kernel
theorem dX2_leads_124 : decode cX2_leads 124 = .ok (.goto 4, 3) := by decide +kernel
theorem dX2_leads_127 : decode cX2_leads 127 = .ok (.iconst 0, 1) := by decide +kernel
theorem dX2_leads_128 : decode cX2_leads 128 = .ok (.ireturn, 1) := by decide +kernel
theorem dX2_leads_129 : decode cX2_leads 129 = .ok (.aload_n 0, 1) := by decide +kernel
theorem dX2_leads_130 : decode cX2_leads 130 = .ok (.iload_n 1, 1) := by decide +kernel
theorem dX2_leads_131 : decode cX2_leads 131 = .ok (.invokevirtual 95, 3) := by decide +kernel
theorem dX2_leads_134 : decode cX2_leads 134 = .ok (.ireturn, 1) := by decide +kernel
theorem dX2_allLead_0 : decode cX2_allLead 0 = .ok (.iload_n 1, 1) := by decide +kernel
theorem dX2_allLead_1 : decode cX2_allLead 1 = .ok (.istore 4, 2) := by decide +kernel
theorem dX2_allLead_3 : decode cX2_allLead 3 = .ok (.iload 4, 2) := by decide +kernel
theorem dX2_allLead_5 : decode cX2_allLead 5 = .ok (.iload_n 2, 1) := by decide +kernel
theorem dX2_allLead_6 : decode cX2_allLead 6 = .ok (.if_icmp .ge 21, 3) := by decide +kernel
theorem dX2_allLead_9 : decode cX2_allLead 9 = .ok (.aload_n 0, 1) := by decide +kernel
theorem dX2_allLead_10 : decode cX2_allLead 10 = .ok (.iload 4, 2) := by decide +kernel
theorem dX2_allLead_12 : decode cX2_allLead 12 = .ok (.iload_n 3, 1) := by decide +kernel
theorem dX2_allLead_13 : decode cX2_allLead 13 = .ok (.invokevirtual 105, 3) := by decide +kernel
theorem dX2_allLead_16 : decode cX2_allLead 16 = .ok (.ifCond .ne 5, 3) := by decide +kernel
theorem dX2_allLead_19 : decode cX2_allLead 19 = .ok (.iconst 0, 1) := by decide +kernel
theorem dX2_allLead_20 : decode cX2_allLead 20 = .ok (.ireturn, 1) := by decide +kernel
theorem dX2_allLead_21 : decode cX2_allLead 21 = .ok (.iinc 4 1, 3) := by decide +kernel
theorem dX2_allLead_24 : decode cX2_allLead 24 = .ok (.goto (-21), 3) := by decide +kernel
theorem dX2_allLead_27 : decode cX2_allLead 27 = .ok (.iconst 1, 1) := by decide +kernel
theorem dX2_allLead_28 : decode cX2_allLead 28 = .ok (.ireturn, 1) := by decide +kernel
theorem dX2_burns_0 : decode cX2_burns 0 = .ok (.aload_n 0, 1) := by decide +kernel
theorem dX2_burns_1 : decode cX2_burns 1 = .ok (.getfield 31, 3) := by decide +kernel
theorem dX2_burns_4 : decode cX2_burns 4 = .ok (.ifCond .le 20, 3) := by decide +kernel
theorem dX2_burns_7 : decode cX2_burns 7 = .ok (.aload_n 0, 1) := by decide +kernel
theorem dX2_burns_8 : decode cX2_burns 8 = .ok (.iconst 0, 1) := by decide +kernel
theorem dX2_burns_9 : decode cX2_burns 9 = .ok (.aload_n 0, 1) := by decide +kernel
theorem dX2_burns_10 : decode cX2_burns 10 = .ok (.getfield 31, 3) := by decide +kernel
theorem dX2_burns_13 : decode cX2_burns 13 = .ok (.iload_n 1, 1) := by decide +kernel
theorem dX2_burns_14 : decode cX2_burns 14 = .ok (.invokevirtual 108, 3) := by decide +kernel
theorem dX2_burns_17 : decode cX2_burns 17 = .ok (.ifCond .eq 7, 3) := by decide +kernel
theorem dX2_burns_20 : decode cX2_burns 20 = .ok (.iconst 1, 1) := by decide +kernel
theorem dX2_burns_21 : decode cX2_burns 21 = .ok (.goto 4, 3) := by decide +kernel
theorem dX2_burns_24 : decode cX2_burns 24 = .ok (.iconst 0, 1) := by decide +kernel
theorem dX2_burns_25 : decode cX2_burns 25 = .ok (.ireturn, 1) := by decide +kernel
theorem dX2_wholeOnes_0 : decode cX2_wholeOnes 0 = .ok (.iconst 0, 1) := by decide +kernel
theorem dX2_wholeOnes_1 : decode cX2_wholeOnes 1 = .ok (.istore_n 3, 1) := by decide +kernel
theorem dX2_wholeOnes_2 : decode cX2_wholeOnes 2 = .ok (.iload_n 1, 1) := by decide +kernel
theorem dX2_wholeOnes_3 : decode cX2_wholeOnes 3 = .ok (.istore 4, 2) := by decide +kernel
theorem dX2_wholeOnes_5 : decode cX2_wholeOnes 5 = .ok (.iload 4, 2) := by decide +kernel
theorem dX2_wholeOnes_7 : decode cX2_wholeOnes 7 = .ok (.iload_n 2, 1) := by decide +kernel
theorem dX2_wholeOnes_8 : decode cX2_wholeOnes 8 = .ok (.if_icmp .ge 21, 3) := by decide +kernel
theorem dX2_wholeOnes_11 : decode cX2_wholeOnes 11 = .ok (.aload_n 0, 1) := by decide +kernel
theorem dX2_wholeOnes_12 : decode cX2_wholeOnes 12 = .ok (.iload 4, 2) := by decide +kernel
theorem dX2_wholeOnes_14 : decode cX2_wholeOnes 14 = .ok (.invokevirtual 95, 3) := by decide +kernel
theorem dX2_wholeOnes_17 : decode cX2_wholeOnes 17 = .ok (.ifCond .eq 6, 3) := by decide +kernel
theorem dX2_wholeOnes_20 : decode cX2_wholeOnes 20 = .ok (.iinc 3 1, 3) := by decide +kernel
theorem dX2_wholeOnes_23 : decode cX2_wholeOnes 23 = .ok (.iinc 4 1, 3) := by decide +kernel
theorem dX2_wholeOnes_26 : decode cX2_wholeOnes 26 = .ok (.goto (-21), 3) := by decide +kernel
theorem dX2_wholeOnes_29 : decode cX2_wholeOnes 29 = .ok (.iload_n 3, 1) := by decide +kernel
theorem dX2_wholeOnes_30 : decode cX2_wholeOnes 30 = .ok (.ireturn, 1) := by decide +kernel
theorem dX2_wear_0 : decode cX2_wear 0 = .ok (.aload_n 0, 1) := by decide +kernel
theorem dX2_wear_1 : decode cX2_wear 1 = .ok (.iload_n 1, 1) := by decide +kernel
theorem dX2_wear_2 : decode cX2_wear 2 = .ok (.iload_n 2, 1) := by decide +kernel
theorem dX2_wear_3 : decode cX2_wear 3 = .ok (.invokevirtual 112, 3) := by decide +kernel
theorem dX2_wear_6 : decode cX2_wear 6 = .ok (.istore 4, 2) := by decide +kernel
theorem dX2_wear_8 : decode cX2_wear 8 = .ok (.iload 4, 2) := by decide +kernel
theorem dX2_wear_10 : decode cX2_wear 10 = .ok (.ifCond .le 13, 3) := by decide +kernel
theorem dX2_wear_13 : decode cX2_wear 13 = .ok (.bipush 60, 2) := by decide +kernel
theorem dX2_wear_15 : decode cX2_wear 15 = .ok (.iload 4, 2) := by decide +kernel
theorem dX2_wear_17 : decode cX2_wear 17 = .ok (.idiv, 1) := by decide +kernel
theorem dX2_wear_18 : decode cX2_wear 18 = .ok (.iload_n 3, 1) := by decide +kernel
theorem dX2_wear_19 : decode cX2_wear 19 = .ok (.imul, 1) := by decide +kernel
theorem dX2_wear_20 : decode cX2_wear 20 = .ok (.goto 4, 3) := by decide +kernel
theorem dX2_wear_23 : decode cX2_wear 23 = .ok (.iconst 0, 1) := by decide +kernel
theorem dX2_wear_24 : decode cX2_wear 24 = .ok (.istore 5, 2) := by decide +kernel
theorem dX2_wear_26 : decode cX2_wear 26 = .ok (.iload_n 1, 1) := by decide +kernel
theorem dX2_wear_27 : decode cX2_wear 27 = .ok (.istore 6, 2) := by decide +kernel
theorem dX2_wear_29 : decode cX2_wear 29 = .ok (.iload 6, 2) := by decide +kernel
theorem dX2_wear_31 : decode cX2_wear 31 = .ok (.iload_n 2, 1) := by decide +kernel
theorem dX2_wear_32 : decode cX2_wear 32 = .ok (.if_icmp .ge 84, 3) := by decide +kernel
theorem dX2_wear_35 : decode cX2_wear 35 = .ok (.aload_n 0, 1) := by decide +kernel
theorem dX2_wear_36 : decode cX2_wear 36 = .ok (.iload 6, 2) := by decide +kernel
theorem dX2_wear_38 : decode cX2_wear 38 = .ok (.invokevirtual 95, 3) := by decide +kernel
theorem dX2_wear_41 : decode cX2_wear 41 = .ok (.ifCond .ne 6, 3) := by decide +kernel
theorem dX2_wear_44 : decode cX2_wear 44 = .ok (.goto 66, 3) := by decide +kernel
theorem dX2_wear_47 : decode cX2_wear 47 = .ok (.aload_n 0, 1) := by decide +kernel
theorem dX2_wear_48 : decode cX2_wear 48 = .ok (.getfield 18, 3) := by decide +kernel
theorem dX2_wear_51 : decode cX2_wear 51 = .ok (.iload 6, 2) := by decide +kernel
theorem dX2_wear_53 : decode cX2_wear 53 = .ok (.aload_n 0, 1) := by decide +kernel
theorem dX2_wear_54 : decode cX2_wear 54 = .ok (.getfield 18, 3) := by decide +kernel
theorem dX2_wear_57 : decode cX2_wear 57 = .ok (.iload 6, 2) := by decide +kernel
theorem dX2_wear_59 : decode cX2_wear 59 = .ok (.iaload, 1) := by decide +kernel
theorem dX2_wear_60 : decode cX2_wear 60 = .ok (.aload_n 0, 1) := by decide +kernel
theorem dX2_wear_61 : decode cX2_wear 61 = .ok (.getfield 9, 3) := by decide +kernel
theorem dX2_wear_64 : decode cX2_wear 64 = .ok (.iload 6, 2) := by decide +kernel
theorem dX2_wear_66 : decode cX2_wear 66 = .ok (.iaload, 1) := by decide +kernel
theorem dX2_wear_67 : decode cX2_wear 67 = .ok (.aload_n 0, 1) := by decide +kernel
theorem dX2_wear_68 : decode cX2_wear 68 = .ok (.getfield 15, 3) := by decide +kernel
theorem dX2_wear_71 : decode cX2_wear 71 = .ok (.iload 6, 2) := by decide +kernel
theorem dX2_wear_73 : decode cX2_wear 73 = .ok (.iaload, 1) := by decide +kernel
theorem dX2_wear_74 : decode cX2_wear 74 = .ok (.invokestatic 115, 3) := by decide +kernel
theorem dX2_wear_77 : decode cX2_wear 77 = .ok (.iadd, 1) := by decide +kernel
theorem dX2_wear_78 : decode cX2_wear 78 = .ok (.iload 5, 2) := by decide +kernel
theorem dX2_wear_80 : decode cX2_wear 80 = .ok (.iadd, 1) := by decide +kernel
theorem dX2_wear_81 : decode cX2_wear 81 = .ok (.sipush 999, 3) := by decide +kernel
theorem dX2_wear_84 : decode cX2_wear 84 = .ok (.invokestatic 92, 3) := by decide +kernel
theorem dX2_wear_87 : decode cX2_wear 87 = .ok (.iastore, 1) := by decide +kernel
theorem dX2_wear_88 : decode cX2_wear 88 = .ok (.aload_n 0, 1) := by decide +kernel
theorem dX2_wear_89 : decode cX2_wear 89 = .ok (.getfield 18, 3) := by decide +kernel
theorem dX2_wear_92 : decode cX2_wear 92 = .ok (.iload 6, 2) := by decide +kernel
theorem dX2_wear_94 : decode cX2_wear 94 = .ok (.iaload, 1) := by decide +kernel
theorem dX2_wear_95 : decode cX2_wear 95 = .ok (.aload_n 0, 1) := by decide +kernel
theorem dX2_wear_96 : decode cX2_wear 96 = .ok (.iload 6, 2) := by decide +kernel
theorem dX2_wear_98 : decode cX2_wear 98 = .ok (.invokevirtual 62, 3) := by decide +kernel
theorem dX2_wear_101 : decode cX2_wear 101 = .ok (.if_icmp .lt 9, 3) := by decide +kernel
theorem dX2_wear_104 : decode cX2_wear 104 = .ok (.aload_n 0, 1) := by decide +kernel
theorem dX2_wear_105 : decode cX2_wear 105 = .ok (.iload 6, 2) := by decide +kernel
theorem dX2_wear_107 : decode cX2_wear 107 = .ok (.invokevirtual 118, 3) := by decide +kernel
theorem dX2_wear_110 : decode cX2_wear 110 = .ok (.iinc 6 1, 3) := by decide +kernel
theorem dX2_wear_113 : decode cX2_wear 113 = .ok (.goto (-84), 3) := by decide +kernel
theorem dX2_wear_116 : decode cX2_wear 116 = .ok (.return_, 1) := by decide +kernel
theorem dX2_unseatLoose_0 : decode cX2_unseatLoose 0 = .ok (.iconst 0, 1) := by decide +kernel
theorem dX2_unseatLoose_1 : decode cX2_unseatLoose 1 = .ok (.istore_n 1, 1) := by decide +kernel
theorem dX2_unseatLoose_2 : decode cX2_unseatLoose 2 = .ok (.iload_n 1, 1) := by decide +kernel
theorem dX2_unseatLoose_3 : decode cX2_unseatLoose 3 = .ok (.aload_n 0, 1) := by decide +kernel
theorem dX2_unseatLoose_4 : decode cX2_unseatLoose 4 = .ok (.getfield 31, 3) := by decide +kernel
theorem dX2_unseatLoose_7 : decode cX2_unseatLoose 7 = .ok (.if_icmp .ge 51, 3) := by decide +kernel
theorem dX2_unseatLoose_10 : decode cX2_unseatLoose 10 = .ok (.aload_n 0, 1) := by decide +kernel
theorem dX2_unseatLoose_11 : decode cX2_unseatLoose 11 = .ok (.getfield 9, 3) := by decide +kernel
theorem dX2_unseatLoose_14 : decode cX2_unseatLoose 14 = .ok (.iload_n 1, 1) := by decide +kernel
theorem dX2_unseatLoose_15 : decode cX2_unseatLoose 15 = .ok (.iaload, 1) := by decide +kernel
theorem dX2_unseatLoose_16 : decode cX2_unseatLoose 16 = .ok (.iconst 1, 1) := by decide +kernel
theorem dX2_unseatLoose_17 : decode cX2_unseatLoose 17 = .ok (.if_icmp .ne 35, 3) := by decide +kernel
theorem dX2_unseatLoose_20 : decode cX2_unseatLoose 20 = .ok (.aload_n 0, 1) := by decide +kernel
theorem dX2_unseatLoose_21 : decode cX2_unseatLoose 21 = .ok (.getfield 15, 3) := by decide +kernel
theorem dX2_unseatLoose_24 : decode cX2_unseatLoose 24 = .ok (.iload_n 1, 1) := by decide +kernel
theorem dX2_unseatLoose_25 : decode cX2_unseatLoose 25 = .ok (.iaload, 1) := by decide +kernel
theorem dX2_unseatLoose_26 : decode cX2_unseatLoose 26 = .ok (.iconst 3, 1) := by decide +kernel
theorem dX2_unseatLoose_27 : decode cX2_unseatLoose 27 = .ok (.iadd, 1) := by decide +kernel
theorem dX2_unseatLoose_28 : decode cX2_unseatLoose 28 = .ok (.aload_n 0, 1) := by decide +kernel
theorem dX2_unseatLoose_29 : decode cX2_unseatLoose 29 = .ok (.getfield 40, 3) := by decide +kernel
theorem dX2_unseatLoose_32 : decode cX2_unseatLoose 32 = .ok (.invokestatic 101, 3) := by decide +kernel
theorem dX2_unseatLoose_35 : decode cX2_unseatLoose 35 = .ok (.ifCond .eq 17, 3) := by decide +kernel
theorem dX2_unseatLoose_38 : decode cX2_unseatLoose 38 = .ok (.aload_n 0, 1) := by decide +kernel
theorem dX2_unseatLoose_39 : decode cX2_unseatLoose 39 = .ok (.dup, 1) := by decide +kernel
theorem dX2_unseatLoose_40 : decode cX2_unseatLoose 40 = .ok (.getfield 37, 3) := by decide +kernel
theorem dX2_unseatLoose_43 : decode cX2_unseatLoose 43 = .ok (.iconst 1, 1) := by decide +kernel
theorem dX2_unseatLoose_44 : decode cX2_unseatLoose 44 = .ok (.iload_n 1, 1) := by decide +kernel
theorem dX2_unseatLoose_45 : decode cX2_unseatLoose 45 = .ok (.ishl, 1) := by decide +kernel
theorem dX2_unseatLoose_46 : decode cX2_unseatLoose 46 = .ok (.iconst (-1), 1) := by decide +kernel
theorem dX2_unseatLoose_47 : decode cX2_unseatLoose 47 = .ok (.ixor, 1) := by decide +kernel
theorem dX2_unseatLoose_48 : decode cX2_unseatLoose 48 = .ok (.iand, 1) := by decide +kernel
theorem dX2_unseatLoose_49 : decode cX2_unseatLoose 49 = .ok (.putfield 37, 3) := by decide +kernel
theorem dX2_unseatLoose_52 : decode cX2_unseatLoose 52 = .ok (.iinc 1 1, 3) := by decide +kernel
theorem dX2_unseatLoose_55 : decode cX2_unseatLoose 55 = .ok (.goto (-53), 3) := by decide +kernel
theorem dX2_unseatLoose_58 : decode cX2_unseatLoose 58 = .ok (.return_, 1) := by decide +kernel
theorem dX2_passHour_0 : decode cX2_passHour 0 = .ok (.aload_n 0, 1) := by decide +kernel
theorem dX2_passHour_1 : decode cX2_passHour 1 = .ok (.dup, 1) := by decide +kernel
theorem dX2_passHour_2 : decode cX2_passHour 2 = .ok (.getfield 40, 3) := by decide +kernel
theorem dX2_passHour_5 : decode cX2_passHour 5 = .ok (.iconst 1, 1) := by decide +kernel
theorem dX2_passHour_6 : decode cX2_passHour 6 = .ok (.iadd, 1) := by decide +kernel
theorem dX2_passHour_7 : decode cX2_passHour 7 = .ok (.putfield 40, 3) := by decide +kernel
theorem dX2_passHour_10 : decode cX2_passHour 10 = .ok (.aload_n 0, 1) := by decide +kernel
theorem dX2_passHour_11 : decode cX2_passHour 11 = .ok (.getfield 31, 3) := by decide +kernel
theorem dX2_passHour_14 : decode cX2_passHour 14 = .ok (.ifCond .le 23, 3) := by decide +kernel
theorem dX2_passHour_17 : decode cX2_passHour 17 = .ok (.aload_n 0, 1) := by decide +kernel
theorem dX2_passHour_18 : decode cX2_passHour 18 = .ok (.iconst 0, 1) := by decide +kernel
theorem dX2_passHour_19 : decode cX2_passHour 19 = .ok (.aload_n 0, 1) := by decide +kernel
theorem dX2_passHour_20 : decode cX2_passHour 20 = .ok (.getfield 31, 3) := by decide +kernel
theorem dX2_passHour_23 : decode cX2_passHour 23 = .ok (.aload_n 0, 1) := by decide +kernel
theorem dX2_passHour_24 : decode cX2_passHour 24 = .ok (.getfield 40, 3) := by decide +kernel
theorem dX2_passHour_27 : decode cX2_passHour 27 = .ok (.invokevirtual 108, 3) := by decide +kernel
theorem dX2_passHour_30 : decode cX2_passHour 30 = .ok (.ifCond .eq 7, 3) := by decide +kernel
theorem dX2_passHour_33 : decode cX2_passHour 33 = .ok (.iconst 1, 1) := by decide +kernel
theorem dX2_passHour_34 : decode cX2_passHour 34 = .ok (.goto 4, 3) := by decide +kernel
theorem dX2_passHour_37 : decode cX2_passHour 37 = .ok (.iconst 0, 1) := by decide +kernel
theorem dX2_passHour_38 : decode cX2_passHour 38 = .ok (.istore_n 2, 1) := by decide +kernel
theorem dX2_passHour_39 : decode cX2_passHour 39 = .ok (.iload_n 2, 1) := by decide +kernel
theorem dX2_passHour_40 : decode cX2_passHour 40 = .ok (.ifCond .eq 29, 3) := by decide +kernel
theorem dX2_passHour_43 : decode cX2_passHour 43 = .ok (.aload_n 0, 1) := by decide +kernel
theorem dX2_passHour_44 : decode cX2_passHour 44 = .ok (.aload_n 0, 1) := by decide +kernel
theorem dX2_passHour_45 : decode cX2_passHour 45 = .ok (.getfield 43, 3) := by decide +kernel
theorem dX2_passHour_48 : decode cX2_passHour 48 = .ok (.iconst 1, 1) := by decide +kernel
theorem dX2_passHour_49 : decode cX2_passHour 49 = .ok (.iadd, 1) := by decide +kernel
theorem dX2_passHour_50 : decode cX2_passHour 50 = .ok (.sipush 999, 3) := by decide +kernel
theorem dX2_passHour_53 : decode cX2_passHour 53 = .ok (.invokestatic 92, 3) := by decide +kernel
theorem dX2_passHour_56 : decode cX2_passHour 56 = .ok (.putfield 43, 3) := by decide +kernel
theorem dX2_passHour_59 : decode cX2_passHour 59 = .ok (.aload_n 0, 1) := by decide +kernel
theorem dX2_passHour_60 : decode cX2_passHour 60 = .ok (.iconst 0, 1) := by decide +kernel
theorem dX2_passHour_61 : decode cX2_passHour 61 = .ok (.aload_n 0, 1) := by decide +kernel
theorem dX2_passHour_62 : decode cX2_passHour 62 = .ok (.getfield 31, 3) := by decide +kernel
theorem dX2_passHour_65 : decode cX2_passHour 65 = .ok (.iload_n 1, 1) := by decide +kernel
theorem dX2_passHour_66 : decode cX2_passHour 66 = .ok (.invokevirtual 121, 3) := by decide +kernel
theorem dX2_passHour_69 : decode cX2_passHour 69 = .ok (.aload_n 0, 1) := by decide +kernel
theorem dX2_passHour_70 : decode cX2_passHour 70 = .ok (.invokevirtual 124, 3) := by decide +kernel
theorem dX2_passHour_73 : decode cX2_passHour 73 = .ok (.iload_n 2, 1) := by decide +kernel
theorem dX2_passHour_74 : decode cX2_passHour 74 = .ok (.ireturn, 1) := by decide +kernel
theorem dX2_pass_0 : decode cX2_pass 0 = .ok (.iconst 0, 1) := by decide +kernel
theorem dX2_pass_1 : decode cX2_pass 1 = .ok (.istore_n 2, 1) := by decide +kernel
theorem dX2_pass_2 : decode cX2_pass 2 = .ok (.iload_n 2, 1) := by decide +kernel
theorem dX2_pass_3 : decode cX2_pass 3 = .ok (.iload_n 1, 1) := by decide +kernel
theorem dX2_pass_4 : decode cX2_pass 4 = .ok (.if_icmp .ge 15, 3) := by decide +kernel
theorem dX2_pass_7 : decode cX2_pass 7 = .ok (.aload_n 0, 1) := by decide +kernel
theorem dX2_pass_8 : decode cX2_pass 8 = .ok (.iconst 1, 1) := by decide +kernel
theorem dX2_pass_9 : decode cX2_pass 9 = .ok (.invokevirtual 127, 3) := by decide +kernel
theorem dX2_pass_12 : decode cX2_pass 12 = .ok (.pop, 1) := by decide +kernel
theorem dX2_pass_13 : decode cX2_pass 13 = .ok (.iinc 2 1, 3) := by decide +kernel
theorem dX2_pass_16 : decode cX2_pass 16 = .ok (.goto (-14), 3) := by decide +kernel
theorem dX2_pass_19 : decode cX2_pass 19 = .ok (.return_, 1) := by decide +kernel
theorem dX2_passes_0 : decode cX2_passes 0 = .ok (.iload_n 1, 1) := by decide +kernel
theorem dX2_passes_1 : decode cX2_passes 1 = .ok (.iconst 1, 1) := by decide +kernel
theorem dX2_passes_2 : decode cX2_passes 2 = .ok (.if_icmp .lt 21, 3) := by decide +kernel
theorem dX2_passes_5 : decode cX2_passes 5 = .ok (.iload_n 1, 1) := by decide +kernel
theorem dX2_passes_6 : decode cX2_passes 6 = .ok (.bipush 60, 2) := by decide +kernel
theorem dX2_passes_8 : decode cX2_passes 8 = .ok (.if_icmp .gt 15, 3) := by decide +kernel
theorem dX2_passes_11 : decode cX2_passes 11 = .ok (.aload_n 0, 1) := by decide +kernel
theorem dX2_passes_12 : decode cX2_passes 12 = .ok (.getfield 40, 3) := by decide +kernel
theorem dX2_passes_15 : decode cX2_passes 15 = .ok (.iload_n 1, 1) := by decide +kernel
theorem dX2_passes_16 : decode cX2_passes 16 = .ok (.iadd, 1) := by decide +kernel
theorem dX2_passes_17 : decode cX2_passes 17 = .ok (.sipush 999, 3) := by decide +kernel
theorem dX2_passes_20 : decode cX2_passes 20 = .ok (.if_icmp .le 5, 3) := by decide +kernel
theorem dX2_passes_23 : decode cX2_passes 23 = .ok (.iconst 0, 1) := by decide +kernel
theorem dX2_passes_24 : decode cX2_passes 24 = .ok (.ireturn, 1) := by decide +kernel
theorem dX2_passes_25 : decode cX2_passes 25 = .ok (.iconst 0, 1) := by decide +kernel
theorem dX2_passes_26 : decode cX2_passes 26 = .ok (.istore_n 2, 1) := by decide +kernel
theorem dX2_passes_27 : decode cX2_passes 27 = .ok (.iload_n 2, 1) := by decide +kernel
theorem dX2_passes_28 : decode cX2_passes 28 = .ok (.iload_n 1, 1) := by decide +kernel
theorem dX2_passes_29 : decode cX2_passes 29 = .ok (.if_icmp .ge 15, 3) := by decide +kernel
theorem dX2_passes_32 : decode cX2_passes 32 = .ok (.aload_n 0, 1) := by decide +kernel
theorem dX2_passes_33 : decode cX2_passes 33 = .ok (.iconst 1, 1) := by decide +kernel
theorem dX2_passes_34 : decode cX2_passes 34 = .ok (.invokevirtual 127, 3) := by decide +kernel
theorem dX2_passes_37 : decode cX2_passes 37 = .ok (.pop, 1) := by decide +kernel
theorem dX2_passes_38 : decode cX2_passes 38 = .ok (.iinc 2 1, 3) := by decide +kernel
theorem dX2_passes_41 : decode cX2_passes 41 = .ok (.goto (-14), 3) := by decide +kernel
theorem dX2_passes_44 : decode cX2_passes 44 = .ok (.iconst 1, 1) := by decide +kernel
theorem dX2_passes_45 : decode cX2_passes 45 = .ok (.ireturn, 1) := by decide +kernel
theorem dX2_passFrosts_0 : decode cX2_passFrosts 0 = .ok (.iconst 0, 1) := by decide +kernel
theorem dX2_passFrosts_1 : decode cX2_passFrosts 1 = .ok (.istore_n 3, 1) := by decide +kernel
theorem dX2_passFrosts_2 : decode cX2_passFrosts 2 = .ok (.iload_n 3, 1) := by decide +kernel
theorem dX2_passFrosts_3 : decode cX2_passFrosts 3 = .ok (.iload_n 1, 1) := by decide +kernel
theorem dX2_passFrosts_4 : decode cX2_passFrosts 4 = .ok (.if_icmp .ge 28, 3) := by decide +kernel
theorem dX2_passFrosts_7 : decode cX2_passFrosts 7 = .ok (.aload_n 0, 1) := by decide +kernel
theorem dX2_passFrosts_8 : decode cX2_passFrosts 8 = .ok (.iload_n 2, 1) := by decide +kernel
theorem dX2_passFrosts_9 : decode cX2_passFrosts 9 = .ok (.iload_n 3, 1) := by decide +kernel
theorem dX2_passFrosts_10 : decode cX2_passFrosts 10 = .ok (.ishr, 1) := by decide +kernel
theorem dX2_passFrosts_11 : decode cX2_passFrosts 11 = .ok (.iconst 1, 1) := by decide +kernel
theorem dX2_passFrosts_12 : decode cX2_passFrosts 12 = .ok (.iand, 1) := by decide +kernel
theorem dX2_passFrosts_13 : decode cX2_passFrosts 13 = .ok (.iconst 1, 1) := by decide +kernel
theorem dX2_passFrosts_14 : decode cX2_passFrosts 14 = .ok (.if_icmp .ne 7, 3) := by decide +kernel
theorem dX2_passFrosts_17 : decode cX2_passFrosts 17 = .ok (.iconst 2, 1) := by decide +kernel
theorem dX2_passFrosts_18 : decode cX2_passFrosts 18 = .ok (.goto 4, 3) := by decide +kernel
theorem dX2_passFrosts_21 : decode cX2_passFrosts 21 = .ok (.iconst 1, 1) := by decide +kernel
theorem dX2_passFrosts_22 : decode cX2_passFrosts 22 = .ok (.invokevirtual 127, 3) := by decide +kernel
theorem dX2_passFrosts_25 : decode cX2_passFrosts 25 = .ok (.pop, 1) := by decide +kernel
theorem dX2_passFrosts_26 : decode cX2_passFrosts 26 = .ok (.iinc 3 1, 3) := by decide +kernel
theorem dX2_passFrosts_29 : decode cX2_passFrosts 29 = .ok (.goto (-27), 3) := by decide +kernel
theorem dX2_passFrosts_32 : decode cX2_passFrosts 32 = .ok (.return_, 1) := by decide +kernel
theorem dX2_cutHour_0 : decode cX2_cutHour 0 = .ok (.aload_n 0, 1) := by decide +kernel
theorem dX2_cutHour_1 : decode cX2_cutHour 1 = .ok (.dup, 1) := by decide +kernel
theorem dX2_cutHour_2 : decode cX2_cutHour 2 = .ok (.getfield 40, 3) := by decide +kernel
theorem dX2_cutHour_5 : decode cX2_cutHour 5 = .ok (.iconst 1, 1) := by decide +kernel
theorem dX2_cutHour_6 : decode cX2_cutHour 6 = .ok (.iadd, 1) := by decide +kernel
theorem dX2_cutHour_7 : decode cX2_cutHour 7 = .ok (.putfield 40, 3) := by decide +kernel
theorem dX2_cutHour_10 : decode cX2_cutHour 10 = .ok (.aload_n 0, 1) := by decide +kernel
theorem dX2_cutHour_11 : decode cX2_cutHour 11 = .ok (.iconst 0, 1) := by decide +kernel
theorem dX2_cutHour_12 : decode cX2_cutHour 12 = .ok (.iload_n 1, 1) := by decide +kernel
theorem dX2_cutHour_13 : decode cX2_cutHour 13 = .ok (.invokevirtual 130, 3) := by decide +kernel
theorem dX2_cutHour_16 : decode cX2_cutHour 16 = .ok (.aload_n 0, 1) := by decide +kernel
theorem dX2_cutHour_17 : decode cX2_cutHour 17 = .ok (.iload_n 1, 1) := by decide +kernel
theorem dX2_cutHour_18 : decode cX2_cutHour 18 = .ok (.aload_n 0, 1) := by decide +kernel
theorem dX2_cutHour_19 : decode cX2_cutHour 19 = .ok (.getfield 31, 3) := by decide +kernel
theorem dX2_cutHour_22 : decode cX2_cutHour 22 = .ok (.invokevirtual 130, 3) := by decide +kernel
theorem dX2_cutHour_25 : decode cX2_cutHour 25 = .ok (.iadd, 1) := by decide +kernel
theorem dX2_cutHour_26 : decode cX2_cutHour 26 = .ok (.istore_n 2, 1) := by decide +kernel
theorem dX2_cutHour_27 : decode cX2_cutHour 27 = .ok (.aload_n 0, 1) := by decide +kernel
theorem dX2_cutHour_28 : decode cX2_cutHour 28 = .ok (.invokevirtual 124, 3) := by decide +kernel
theorem dX2_cutHour_31 : decode cX2_cutHour 31 = .ok (.iload_n 2, 1) := by decide +kernel
theorem dX2_cutHour_32 : decode cX2_cutHour 32 = .ok (.ireturn, 1) := by decide +kernel
theorem dX2_partHour_0 : decode cX2_partHour 0 = .ok (.aload_n 0, 1) := by decide +kernel
theorem dX2_partHour_1 : decode cX2_partHour 1 = .ok (.iload_n 1, 1) := by decide +kernel
theorem dX2_partHour_2 : decode cX2_partHour 2 = .ok (.iload_n 2, 1) := by decide +kernel
theorem dX2_partHour_3 : decode cX2_partHour 3 = .ok (.aload_n 0, 1) := by decide +kernel
theorem dX2_partHour_4 : decode cX2_partHour 4 = .ok (.getfield 40, 3) := by decide +kernel
theorem dX2_partHour_7 : decode cX2_partHour 7 = .ok (.invokevirtual 108, 3) := by decide +kernel
theorem dX2_partHour_10 : decode cX2_partHour 10 = .ok (.ifCond .ne 5, 3) := by decide +kernel
theorem dX2_partHour_13 : decode cX2_partHour 13 = .ok (.iconst 0, 1) := by decide +kernel
theorem dX2_partHour_14 : decode cX2_partHour 14 = .ok (.ireturn, 1) := by decide +kernel
theorem dX2_partHour_15 : decode cX2_partHour 15 = .ok (.aload_n 0, 1) := by decide +kernel
theorem dX2_partHour_16 : decode cX2_partHour 16 = .ok (.iload_n 1, 1) := by decide +kernel
theorem dX2_partHour_17 : decode cX2_partHour 17 = .ok (.iload_n 2, 1) := by decide +kernel
theorem dX2_partHour_18 : decode cX2_partHour 18 = .ok (.invokevirtual 112, 3) := by decide +kernel
theorem dX2_partHour_21 : decode cX2_partHour 21 = .ok (.istore_n 3, 1) := by decide +kernel
theorem dX2_partHour_22 : decode cX2_partHour 22 = .ok (.aload_n 0, 1) := by decide +kernel
theorem dX2_partHour_23 : decode cX2_partHour 23 = .ok (.iload_n 1, 1) := by decide +kernel
theorem dX2_partHour_24 : decode cX2_partHour 24 = .ok (.iload_n 2, 1) := by decide +kernel
theorem dX2_partHour_25 : decode cX2_partHour 25 = .ok (.iconst 1, 1) := by decide +kernel
theorem dX2_partHour_26 : decode cX2_partHour 26 = .ok (.invokevirtual 121, 3) := by decide +kernel
theorem dX2_partHour_29 : decode cX2_partHour 29 = .ok (.iload_n 3, 1) := by decide +kernel
theorem dX2_partHour_30 : decode cX2_partHour 30 = .ok (.ireturn, 1) := by decide +kernel
theorem dX2_wornOfAll_0 : decode cX2_wornOfAll 0 = .ok (.iconst 0, 1) := by decide +kernel
theorem dX2_wornOfAll_1 : decode cX2_wornOfAll 1 = .ok (.istore_n 1, 1) := by decide +kernel
theorem dX2_wornOfAll_2 : decode cX2_wornOfAll 2 = .ok (.iconst 0, 1) := by decide +kernel
theorem dX2_wornOfAll_3 : decode cX2_wornOfAll 3 = .ok (.istore_n 2, 1) := by decide +kernel
theorem dX2_wornOfAll_4 : decode cX2_wornOfAll 4 = .ok (.iload_n 2, 1) := by decide +kernel
theorem dX2_wornOfAll_5 : decode cX2_wornOfAll 5 = .ok (.aload_n 0, 1) := by decide +kernel
theorem dX2_wornOfAll_6 : decode cX2_wornOfAll 6 = .ok (.getfield 31, 3) := by decide +kernel
theorem dX2_wornOfAll_9 : decode cX2_wornOfAll 9 = .ok (.if_icmp .ge 18, 3) := by decide +kernel
theorem dX2_wornOfAll_12 : decode cX2_wornOfAll 12 = .ok (.iload_n 1, 1) := by decide +kernel
theorem dX2_wornOfAll_13 : decode cX2_wornOfAll 13 = .ok (.aload_n 0, 1) := by decide +kernel
theorem dX2_wornOfAll_14 : decode cX2_wornOfAll 14 = .ok (.getfield 18, 3) := by decide +kernel
theorem dX2_wornOfAll_17 : decode cX2_wornOfAll 17 = .ok (.iload_n 2, 1) := by decide +kernel
theorem dX2_wornOfAll_18 : decode cX2_wornOfAll 18 = .ok (.iaload, 1) := by decide +kernel
theorem dX2_wornOfAll_19 : decode cX2_wornOfAll 19 = .ok (.iadd, 1) := by decide +kernel
theorem dX2_wornOfAll_20 : decode cX2_wornOfAll 20 = .ok (.istore_n 1, 1) := by decide +kernel
theorem dX2_wornOfAll_21 : decode cX2_wornOfAll 21 = .ok (.iinc 2 1, 3) := by decide +kernel
theorem dX2_wornOfAll_24 : decode cX2_wornOfAll 24 = .ok (.goto (-20), 3) := by decide +kernel
theorem dX2_wornOfAll_27 : decode cX2_wornOfAll 27 = .ok (.iload_n 1, 1) := by decide +kernel
theorem dX2_wornOfAll_28 : decode cX2_wornOfAll 28 = .ok (.ireturn, 1) := by decide +kernel
theorem dX2_faults_0 : decode cX2_faults 0 = .ok (.iconst 0, 1) := by decide +kernel
theorem dX2_faults_1 : decode cX2_faults 1 = .ok (.istore_n 1, 1) := by decide +kernel
theorem dX2_faults_2 : decode cX2_faults 2 = .ok (.iconst 0, 1) := by decide +kernel
theorem dX2_faults_3 : decode cX2_faults 3 = .ok (.istore_n 2, 1) := by decide +kernel
theorem dX2_faults_4 : decode cX2_faults 4 = .ok (.iload_n 2, 1) := by decide +kernel
theorem dX2_faults_5 : decode cX2_faults 5 = .ok (.aload_n 0, 1) := by decide +kernel
theorem dX2_faults_6 : decode cX2_faults 6 = .ok (.getfield 31, 3) := by decide +kernel
theorem dX2_faults_9 : decode cX2_faults 9 = .ok (.if_icmp .ge 29, 3) := by decide +kernel
theorem dX2_faults_12 : decode cX2_faults 12 = .ok (.aload_n 0, 1) := by decide +kernel
theorem dX2_faults_13 : decode cX2_faults 13 = .ok (.iload_n 2, 1) := by decide +kernel
theorem dX2_faults_14 : decode cX2_faults 14 = .ok (.aload_n 0, 1) := by decide +kernel
theorem dX2_faults_15 : decode cX2_faults 15 = .ok (.getfield 40, 3) := by decide +kernel
theorem dX2_faults_18 : decode cX2_faults 18 = .ok (.iconst 1, 1) := by decide +kernel
theorem dX2_faults_19 : decode cX2_faults 19 = .ok (.iadd, 1) := by decide +kernel
theorem dX2_faults_20 : decode cX2_faults 20 = .ok (.invokevirtual 105, 3) := by decide +kernel
theorem dX2_faults_23 : decode cX2_faults 23 = .ok (.ifCond .ne 9, 3) := by decide +kernel
theorem dX2_faults_26 : decode cX2_faults 26 = .ok (.iload_n 1, 1) := by decide +kernel
theorem dX2_faults_27 : decode cX2_faults 27 = .ok (.iconst 1, 1) := by decide +kernel
theorem dX2_faults_28 : decode cX2_faults 28 = .ok (.iload_n 2, 1) := by decide +kernel
theorem dX2_faults_29 : decode cX2_faults 29 = .ok (.ishl, 1) := by decide +kernel
theorem dX2_faults_30 : decode cX2_faults 30 = .ok (.ior, 1) := by decide +kernel
theorem dX2_faults_31 : decode cX2_faults 31 = .ok (.istore_n 1, 1) := by decide +kernel
theorem dX2_faults_32 : decode cX2_faults 32 = .ok (.iinc 2 1, 3) := by decide +kernel
theorem dX2_faults_35 : decode cX2_faults 35 = .ok (.goto (-31), 3) := by decide +kernel
theorem dX2_faults_38 : decode cX2_faults 38 = .ok (.iload_n 1, 1) := by decide +kernel
theorem dX2_faults_39 : decode cX2_faults 39 = .ok (.ireturn, 1) := by decide +kernel
theorem dX2_brown_0 : decode cX2_brown 0 = .ok (.iconst 0, 1) := by decide +kernel
theorem dX2_brown_1 : decode cX2_brown 1 = .ok (.istore_n 1, 1) := by decide +kernel
theorem dX2_brown_2 : decode cX2_brown 2 = .ok (.iconst 0, 1) := by decide +kernel
theorem dX2_brown_3 : decode cX2_brown 3 = .ok (.istore_n 2, 1) := by decide +kernel
theorem dX2_brown_4 : decode cX2_brown 4 = .ok (.iload_n 2, 1) := by decide +kernel
theorem dX2_brown_5 : decode cX2_brown 5 = .ok (.aload_n 0, 1) := by decide +kernel
theorem dX2_brown_6 : decode cX2_brown 6 = .ok (.getfield 31, 3) := by decide +kernel
theorem dX2_brown_9 : decode cX2_brown 9 = .ok (.if_icmp .ge 23, 3) := by decide +kernel
theorem dX2_brown_12 : decode cX2_brown 12 = .ok (.aload_n 0, 1) := by decide +kernel
theorem dX2_brown_13 : decode cX2_brown 13 = .ok (.iload_n 2, 1) := by decide +kernel
theorem dX2_brown_14 : decode cX2_brown 14 = .ok (.invokevirtual 133, 3) := by decide +kernel
theorem dX2_brown_17 : decode cX2_brown 17 = .ok (.ifCond .eq 9, 3) := by decide +kernel
theorem dX2_brown_20 : decode cX2_brown 20 = .ok (.iload_n 1, 1) := by decide +kernel
theorem dX2_brown_21 : decode cX2_brown 21 = .ok (.iconst 1, 1) := by decide +kernel
theorem dX2_brown_22 : decode cX2_brown 22 = .ok (.iload_n 2, 1) := by decide +kernel
theorem dX2_brown_23 : decode cX2_brown 23 = .ok (.ishl, 1) := by decide +kernel
theorem dX2_brown_24 : decode cX2_brown 24 = .ok (.ior, 1) := by decide +kernel
theorem dX2_brown_25 : decode cX2_brown 25 = .ok (.istore_n 1, 1) := by decide +kernel
theorem dX2_brown_26 : decode cX2_brown 26 = .ok (.iinc 2 1, 3) := by decide +kernel
theorem dX2_brown_29 : decode cX2_brown 29 = .ok (.goto (-25), 3) := by decide +kernel
theorem dX2_brown_32 : decode cX2_brown 32 = .ok (.iload_n 1, 1) := by decide +kernel
theorem dX2_brown_33 : decode cX2_brown 33 = .ok (.ireturn, 1) := by decide +kernel
theorem dX2_weakest_0 : decode cX2_weakest 0 = .ok (.bipush (-4), 2) := by decide +kernel
theorem dX2_weakest_2 : decode cX2_weakest 2 = .ok (.istore_n 1, 1) := by decide +kernel
theorem dX2_weakest_3 : decode cX2_weakest 3 = .ok (.iconst 0, 1) := by decide +kernel
theorem dX2_weakest_4 : decode cX2_weakest 4 = .ok (.istore_n 2, 1) := by decide +kernel
theorem dX2_weakest_5 : decode cX2_weakest 5 = .ok (.iconst 0, 1) := by decide +kernel
theorem dX2_weakest_6 : decode cX2_weakest 6 = .ok (.istore_n 3, 1) := by decide +kernel
theorem dX2_weakest_7 : decode cX2_weakest 7 = .ok (.iload_n 3, 1) := by decide +kernel
theorem dX2_weakest_8 : decode cX2_weakest 8 = .ok (.aload_n 0, 1) := by decide +kernel
theorem dX2_weakest_9 : decode cX2_weakest 9 = .ok (.getfield 31, 3) := by decide +kernel
theorem dX2_weakest_12 : decode cX2_weakest 12 = .ok (.if_icmp .ge 48, 3) := by decide +kernel
theorem dX2_weakest_15 : decode cX2_weakest 15 = .ok (.aload_n 0, 1) := by decide +kernel
theorem dX2_weakest_16 : decode cX2_weakest 16 = .ok (.iload_n 3, 1) := by decide +kernel
theorem dX2_weakest_17 : decode cX2_weakest 17 = .ok (.invokevirtual 62, 3) := by decide +kernel
theorem dX2_weakest_20 : decode cX2_weakest 20 = .ok (.aload_n 0, 1) := by decide +kernel
theorem dX2_weakest_21 : decode cX2_weakest 21 = .ok (.getfield 18, 3) := by decide +kernel
theorem dX2_weakest_24 : decode cX2_weakest 24 = .ok (.iload_n 3, 1) := by decide +kernel
theorem dX2_weakest_25 : decode cX2_weakest 25 = .ok (.iaload, 1) := by decide +kernel
theorem dX2_weakest_26 : decode cX2_weakest 26 = .ok (.isub, 1) := by decide +kernel
theorem dX2_weakest_27 : decode cX2_weakest 27 = .ok (.istore 4, 2) := by decide +kernel
theorem dX2_weakest_29 : decode cX2_weakest 29 = .ok (.aload_n 0, 1) := by decide +kernel
theorem dX2_weakest_30 : decode cX2_weakest 30 = .ok (.iload_n 3, 1) := by decide +kernel
theorem dX2_weakest_31 : decode cX2_weakest 31 = .ok (.invokevirtual 95, 3) := by decide +kernel
theorem dX2_weakest_34 : decode cX2_weakest 34 = .ok (.ifCond .eq 20, 3) := by decide +kernel
theorem dX2_weakest_37 : decode cX2_weakest 37 = .ok (.iload_n 1, 1) := by decide +kernel
theorem dX2_weakest_38 : decode cX2_weakest 38 = .ok (.bipush (-4), 2) := by decide +kernel
theorem dX2_weakest_40 : decode cX2_weakest 40 = .ok (.if_icmp .eq 9, 3) := by decide +kernel
theorem dX2_weakest_43 : decode cX2_weakest 43 = .ok (.iload 4, 2) := by decide +kernel
theorem dX2_weakest_45 : decode cX2_weakest 45 = .ok (.iload_n 2, 1) := by decide +kernel
theorem dX2_weakest_46 : decode cX2_weakest 46 = .ok (.if_icmp .ge 8, 3) := by decide +kernel
theorem dX2_weakest_49 : decode cX2_weakest 49 = .ok (.iload_n 3, 1) := by decide +kernel
theorem dX2_weakest_50 : decode cX2_weakest 50 = .ok (.istore_n 1, 1) := by decide +kernel
theorem dX2_weakest_51 : decode cX2_weakest 51 = .ok (.iload 4, 2) := by decide +kernel
theorem dX2_weakest_53 : decode cX2_weakest 53 = .ok (.istore_n 2, 1) := by decide +kernel
theorem dX2_weakest_54 : decode cX2_weakest 54 = .ok (.iinc 3 1, 3) := by decide +kernel
theorem dX2_weakest_57 : decode cX2_weakest 57 = .ok (.goto (-50), 3) := by decide +kernel
theorem dX2_weakest_60 : decode cX2_weakest 60 = .ok (.iload_n 1, 1) := by decide +kernel
theorem dX2_weakest_61 : decode cX2_weakest 61 = .ok (.ireturn, 1) := by decide +kernel
theorem dX2_canUse_0 : decode cX2_canUse 0 = .ok (.iload_n 1, 1) := by decide +kernel
theorem dX2_canUse_1 : decode cX2_canUse 1 = .ok (.ifCond .lt 21, 3) := by decide +kernel
theorem dX2_canUse_4 : decode cX2_canUse 4 = .ok (.iload_n 1, 1) := by decide +kernel
theorem dX2_canUse_5 : decode cX2_canUse 5 = .ok (.iconst 4, 1) := by decide +kernel
theorem dX2_canUse_6 : decode cX2_canUse 6 = .ok (.if_icmp .gt 16, 3) := by decide +kernel
theorem dX2_canUse_9 : decode cX2_canUse 9 = .ok (.aload_n 0, 1) := by decide +kernel
theorem dX2_canUse_10 : decode cX2_canUse 10 = .ok (.iload_n 2, 1) := by decide +kernel
theorem dX2_canUse_11 : decode cX2_canUse 11 = .ok (.iload_n 3, 1) := by decide +kernel
theorem dX2_canUse_12 : decode cX2_canUse 12 = .ok (.invokevirtual 136, 3) := by decide +kernel
theorem dX2_canUse_15 : decode cX2_canUse 15 = .ok (.ifCond .eq 7, 3) := by decide +kernel
theorem dX2_canUse_18 : decode cX2_canUse 18 = .ok (.iconst 1, 1) := by decide +kernel
theorem dX2_canUse_19 : decode cX2_canUse 19 = .ok (.goto 4, 3) := by decide +kernel
theorem dX2_canUse_22 : decode cX2_canUse 22 = .ok (.iconst 0, 1) := by decide +kernel
theorem dX2_canUse_23 : decode cX2_canUse 23 = .ok (.ireturn, 1) := by decide +kernel
theorem dX2_toolSeconds_0 : decode cX2_toolSeconds 0 = .ok (.aload_n 0, 1) := by decide +kernel
theorem dX2_toolSeconds_1 : decode cX2_toolSeconds 1 = .ok (.getfield 46, 3) := by decide +kernel
theorem dX2_toolSeconds_4 : decode cX2_toolSeconds 4 = .ok (.iload_n 2, 1) := by decide +kernel
theorem dX2_toolSeconds_5 : decode cX2_toolSeconds 5 = .ok (.isub, 1) := by decide +kernel
theorem dX2_toolSeconds_6 : decode cX2_toolSeconds 6 = .ok (.invokestatic 87, 3) := by decide +kernel
theorem dX2_toolSeconds_9 : decode cX2_toolSeconds 9 = .ok (.istore 4, 2) := by decide +kernel
theorem dX2_toolSeconds_11 : decode cX2_toolSeconds 11 = .ok (.iload_n 1, 1) := by decide +kernel
theorem dX2_toolSeconds_12 : decode cX2_toolSeconds 12 = .ok (.tableswitch 60 0 3 #[32, 37, 42, 51], 32) := by decide +kernel
theorem dX2_toolSeconds_44 : decode cX2_toolSeconds 44 = .ok (.iconst 2, 1) := by decide +kernel
theorem dX2_toolSeconds_45 : decode cX2_toolSeconds 45 = .ok (.iload 4, 2) := by decide +kernel
theorem dX2_toolSeconds_47 : decode cX2_toolSeconds 47 = .ok (.iadd, 1) := by decide +kernel
theorem dX2_toolSeconds_48 : decode cX2_toolSeconds 48 = .ok (.ireturn, 1) := by decide +kernel
theorem dX2_toolSeconds_49 : decode cX2_toolSeconds 49 = .ok (.iconst 1, 1) := by decide +kernel
theorem dX2_toolSeconds_50 : decode cX2_toolSeconds 50 = .ok (.iload 4, 2) := by decide +kernel
theorem dX2_toolSeconds_52 : decode cX2_toolSeconds 52 = .ok (.iadd, 1) := by decide +kernel
theorem dX2_toolSeconds_53 : decode cX2_toolSeconds 53 = .ok (.ireturn, 1) := by decide +kernel
theorem dX2_toolSeconds_54 : decode cX2_toolSeconds 54 = .ok (.iconst 3, 1) := by decide +kernel
theorem dX2_toolSeconds_55 : decode cX2_toolSeconds 55 = .ok (.iload_n 3, 1) := by decide +kernel
theorem dX2_toolSeconds_56 : decode cX2_toolSeconds 56 = .ok (.iload_n 2, 1) := by decide +kernel
theorem dX2_toolSeconds_57 : decode cX2_toolSeconds 57 = .ok (.isub, 1) := by decide +kernel
theorem dX2_toolSeconds_58 : decode cX2_toolSeconds 58 = .ok (.iadd, 1) := by decide +kernel
theorem dX2_toolSeconds_59 : decode cX2_toolSeconds 59 = .ok (.iload 4, 2) := by decide +kernel
theorem dX2_toolSeconds_61 : decode cX2_toolSeconds 61 = .ok (.iadd, 1) := by decide +kernel
theorem dX2_toolSeconds_62 : decode cX2_toolSeconds 62 = .ok (.ireturn, 1) := by decide +kernel
theorem dX2_toolSeconds_63 : decode cX2_toolSeconds 63 = .ok (.iload_n 2, 1) := by decide +kernel
theorem dX2_toolSeconds_64 : decode cX2_toolSeconds 64 = .ok (.iload_n 3, 1) := by decide +kernel
theorem dX2_toolSeconds_65 : decode cX2_toolSeconds 65 = .ok (.invokestatic 139, 3) := by decide +kernel
theorem dX2_toolSeconds_68 : decode cX2_toolSeconds 68 = .ok (.iload 4, 2) := by decide +kernel
theorem dX2_toolSeconds_70 : decode cX2_toolSeconds 70 = .ok (.iadd, 1) := by decide +kernel
theorem dX2_toolSeconds_71 : decode cX2_toolSeconds 71 = .ok (.ireturn, 1) := by decide +kernel
theorem dX2_toolSeconds_72 : decode cX2_toolSeconds 72 = .ok (.aload_n 0, 1) := by decide +kernel
theorem dX2_toolSeconds_73 : decode cX2_toolSeconds 73 = .ok (.getfield 46, 3) := by decide +kernel
theorem dX2_toolSeconds_76 : decode cX2_toolSeconds 76 = .ok (.iload_n 2, 1) := by decide +kernel
theorem dX2_toolSeconds_77 : decode cX2_toolSeconds 77 = .ok (.invokestatic 77, 3) := by decide +kernel
theorem dX2_toolSeconds_80 : decode cX2_toolSeconds 80 = .ok (.ireturn, 1) := by decide +kernel
theorem dX2_tells_0 : decode cX2_tells 0 = .ok (.aload_n 0, 1) := by decide +kernel
theorem dX2_tells_1 : decode cX2_tells 1 = .ok (.getfield 40, 3) := by decide +kernel
theorem dX2_tells_4 : decode cX2_tells 4 = .ok (.iconst 1, 1) := by decide +kernel
theorem dX2_tells_5 : decode cX2_tells 5 = .ok (.iadd, 1) := by decide +kernel
theorem dX2_tells_6 : decode cX2_tells 6 = .ok (.istore 4, 2) := by decide +kernel
theorem dX2_tells_8 : decode cX2_tells 8 = .ok (.iload_n 1, 1) := by decide +kernel
theorem dX2_tells_9 : decode cX2_tells 9 = .ok (.tableswitch 93 0 3 #[31, 37, 49, 60], 31) := by decide +kernel
theorem dX2_tells_40 : decode cX2_tells 40 = .ok (.aload_n 0, 1) := by decide +kernel
theorem dX2_tells_41 : decode cX2_tells 41 = .ok (.iload_n 2, 1) := by decide +kernel
theorem dX2_tells_42 : decode cX2_tells 42 = .ok (.invokevirtual 133, 3) := by decide +kernel
theorem dX2_tells_45 : decode cX2_tells 45 = .ok (.ireturn, 1) := by decide +kernel
theorem dX2_tells_46 : decode cX2_tells 46 = .ok (.aload_n 0, 1) := by decide +kernel
theorem dX2_tells_47 : decode cX2_tells 47 = .ok (.iconst 0, 1) := by decide +kernel
theorem dX2_tells_48 : decode cX2_tells 48 = .ok (.aload_n 0, 1) := by decide +kernel
theorem dX2_tells_49 : decode cX2_tells 49 = .ok (.getfield 31, 3) := by decide +kernel
theorem dX2_tells_52 : decode cX2_tells 52 = .ok (.iload 4, 2) := by decide +kernel
theorem dX2_tells_54 : decode cX2_tells 54 = .ok (.invokevirtual 108, 3) := by decide +kernel
theorem dX2_tells_57 : decode cX2_tells 57 = .ok (.ireturn, 1) := by decide +kernel
theorem dX2_tells_58 : decode cX2_tells 58 = .ok (.aload_n 0, 1) := by decide +kernel
theorem dX2_tells_59 : decode cX2_tells 59 = .ok (.iload_n 2, 1) := by decide +kernel
theorem dX2_tells_60 : decode cX2_tells 60 = .ok (.iload_n 3, 1) := by decide +kernel
theorem dX2_tells_61 : decode cX2_tells 61 = .ok (.iconst 1, 1) := by decide +kernel
theorem dX2_tells_62 : decode cX2_tells 62 = .ok (.iadd, 1) := by decide +kernel
theorem dX2_tells_63 : decode cX2_tells 63 = .ok (.iload 4, 2) := by decide +kernel
theorem dX2_tells_65 : decode cX2_tells 65 = .ok (.invokevirtual 108, 3) := by decide +kernel
theorem dX2_tells_68 : decode cX2_tells 68 = .ok (.ireturn, 1) := by decide +kernel
theorem dX2_tells_69 : decode cX2_tells 69 = .ok (.aload_n 0, 1) := by decide +kernel
theorem dX2_tells_70 : decode cX2_tells 70 = .ok (.iconst 0, 1) := by decide +kernel
theorem dX2_tells_71 : decode cX2_tells 71 = .ok (.iload_n 2, 1) := by decide +kernel
theorem dX2_tells_72 : decode cX2_tells 72 = .ok (.iload 4, 2) := by decide +kernel
theorem dX2_tells_74 : decode cX2_tells 74 = .ok (.invokevirtual 108, 3) := by decide +kernel
theorem dX2_tells_77 : decode cX2_tells 77 = .ok (.ifCond .eq 23, 3) := by decide +kernel
theorem dX2_tells_80 : decode cX2_tells 80 = .ok (.aload_n 0, 1) := by decide +kernel
theorem dX2_tells_81 : decode cX2_tells 81 = .ok (.iload_n 3, 1) := by decide +kernel
theorem dX2_tells_82 : decode cX2_tells 82 = .ok (.iconst 1, 1) := by decide +kernel
theorem dX2_tells_83 : decode cX2_tells 83 = .ok (.iadd, 1) := by decide +kernel
theorem dX2_tells_84 : decode cX2_tells 84 = .ok (.aload_n 0, 1) := by decide +kernel
theorem dX2_tells_85 : decode cX2_tells 85 = .ok (.getfield 31, 3) := by decide +kernel
theorem dX2_tells_88 : decode cX2_tells 88 = .ok (.iload 4, 2) := by decide +kernel
theorem dX2_tells_90 : decode cX2_tells 90 = .ok (.invokevirtual 108, 3) := by decide +kernel
theorem dX2_tells_93 : decode cX2_tells 93 = .ok (.ifCond .eq 7, 3) := by decide +kernel
theorem dX2_tells_96 : decode cX2_tells 96 = .ok (.iconst 1, 1) := by decide +kernel
theorem dX2_tells_97 : decode cX2_tells 97 = .ok (.goto 4, 3) := by decide +kernel
theorem dX2_tells_100 : decode cX2_tells 100 = .ok (.iconst 0, 1) := by decide +kernel
theorem dX2_tells_101 : decode cX2_tells 101 = .ok (.ireturn, 1) := by decide +kernel
theorem dX2_tells_102 : decode cX2_tells 102 = .ok (.aload_n 0, 1) := by decide +kernel
theorem dX2_tells_103 : decode cX2_tells 103 = .ok (.iconst 0, 1) := by decide +kernel
theorem dX2_tells_104 : decode cX2_tells 104 = .ok (.iload_n 2, 1) := by decide +kernel
theorem dX2_tells_105 : decode cX2_tells 105 = .ok (.iload 4, 2) := by decide +kernel
theorem dX2_tells_107 : decode cX2_tells 107 = .ok (.invokevirtual 108, 3) := by decide +kernel
theorem dX2_tells_110 : decode cX2_tells 110 = .ok (.ifCond .eq 23, 3) := by decide +kernel
theorem dX2_tells_113 : decode cX2_tells 113 = .ok (.aload_n 0, 1) := by decide +kernel
theorem dX2_tells_114 : decode cX2_tells 114 = .ok (.iload_n 2, 1) := by decide +kernel
theorem dX2_tells_115 : decode cX2_tells 115 = .ok (.iconst 1, 1) := by decide +kernel
theorem dX2_tells_116 : decode cX2_tells 116 = .ok (.iadd, 1) := by decide +kernel
theorem dX2_tells_117 : decode cX2_tells 117 = .ok (.aload_n 0, 1) := by decide +kernel
theorem dX2_tells_118 : decode cX2_tells 118 = .ok (.getfield 31, 3) := by decide +kernel
theorem dX2_tells_121 : decode cX2_tells 121 = .ok (.iload 4, 2) := by decide +kernel
theorem dX2_tells_123 : decode cX2_tells 123 = .ok (.invokevirtual 108, 3) := by decide +kernel
theorem dX2_tells_126 : decode cX2_tells 126 = .ok (.ifCond .eq 7, 3) := by decide +kernel
theorem dX2_tells_129 : decode cX2_tells 129 = .ok (.iconst 1, 1) := by decide +kernel
theorem dX2_tells_130 : decode cX2_tells 130 = .ok (.goto 4, 3) := by decide +kernel
theorem dX2_tells_133 : decode cX2_tells 133 = .ok (.iconst 0, 1) := by decide +kernel
theorem dX2_tells_134 : decode cX2_tells 134 = .ok (.ireturn, 1) := by decide +kernel
theorem dX2_useTool_0 : decode cX2_useTool 0 = .ok (.aload_n 0, 1) := by decide +kernel
theorem dX2_useTool_1 : decode cX2_useTool 1 = .ok (.aload_n 0, 1) := by decide +kernel
theorem dX2_useTool_2 : decode cX2_useTool 2 = .ok (.iload_n 1, 1) := by decide +kernel
theorem dX2_useTool_3 : decode cX2_useTool 3 = .ok (.iload_n 2, 1) := by decide +kernel
theorem dX2_useTool_4 : decode cX2_useTool 4 = .ok (.iload_n 3, 1) := by decide +kernel
theorem dX2_useTool_5 : decode cX2_useTool 5 = .ok (.invokevirtual 144, 3) := by decide +kernel
theorem dX2_useTool_8 : decode cX2_useTool 8 = .ok (.invokevirtual 80, 3) := by decide +kernel
theorem dX2_useTool_11 : decode cX2_useTool 11 = .ok (.aload_n 0, 1) := by decide +kernel
theorem dX2_useTool_12 : decode cX2_useTool 12 = .ok (.iload_n 1, 1) := by decide +kernel
theorem dX2_useTool_13 : decode cX2_useTool 13 = .ok (.iconst 2, 1) := by decide +kernel
theorem dX2_useTool_14 : decode cX2_useTool 14 = .ok (.if_icmp .eq 8, 3) := by decide +kernel
theorem dX2_useTool_17 : decode cX2_useTool 17 = .ok (.iload_n 1, 1) := by decide +kernel
theorem dX2_useTool_18 : decode cX2_useTool 18 = .ok (.iconst 3, 1) := by decide +kernel
theorem dX2_useTool_19 : decode cX2_useTool 19 = .ok (.if_icmp .ne 7, 3) := by decide +kernel
theorem dX2_useTool_22 : decode cX2_useTool 22 = .ok (.iload_n 3, 1) := by decide +kernel
theorem dX2_useTool_23 : decode cX2_useTool 23 = .ok (.goto 4, 3) := by decide +kernel
theorem dX2_useTool_26 : decode cX2_useTool 26 = .ok (.iload_n 2, 1) := by decide +kernel
theorem dX2_useTool_27 : decode cX2_useTool 27 = .ok (.putfield 46, 3) := by decide +kernel
theorem dX2_useTool_30 : decode cX2_useTool 30 = .ok (.iload_n 1, 1) := by decide +kernel
theorem dX2_useTool_31 : decode cX2_useTool 31 = .ok (.iconst 1, 1) := by decide +kernel
theorem dX2_useTool_32 : decode cX2_useTool 32 = .ok (.if_icmp .ne 15, 3) := by decide +kernel
theorem dX2_useTool_35 : decode cX2_useTool 35 = .ok (.aload_n 0, 1) := by decide +kernel
theorem dX2_useTool_36 : decode cX2_useTool 36 = .ok (.dup, 1) := by decide +kernel
theorem dX2_useTool_37 : decode cX2_useTool 37 = .ok (.getfield 37, 3) := by decide +kernel
theorem dX2_useTool_40 : decode cX2_useTool 40 = .ok (.iconst 1, 1) := by decide +kernel
theorem dX2_useTool_41 : decode cX2_useTool 41 = .ok (.iload_n 2, 1) := by decide +kernel
theorem dX2_useTool_42 : decode cX2_useTool 42 = .ok (.ishl, 1) := by decide +kernel
theorem dX2_useTool_43 : decode cX2_useTool 43 = .ok (.ior, 1) := by decide +kernel
theorem dX2_useTool_44 : decode cX2_useTool 44 = .ok (.putfield 37, 3) := by decide +kernel
theorem dX2_useTool_47 : decode cX2_useTool 47 = .ok (.aload_n 0, 1) := by decide +kernel
theorem dX2_useTool_48 : decode cX2_useTool 48 = .ok (.iload_n 1, 1) := by decide +kernel
theorem dX2_useTool_49 : decode cX2_useTool 49 = .ok (.iload_n 2, 1) := by decide +kernel
theorem dX2_useTool_50 : decode cX2_useTool 50 = .ok (.iload_n 3, 1) := by decide +kernel
theorem dX2_useTool_51 : decode cX2_useTool 51 = .ok (.invokevirtual 148, 3) := by decide +kernel
theorem dX2_useTool_54 : decode cX2_useTool 54 = .ok (.ireturn, 1) := by decide +kernel
theorem dX2_drawFigures_0 : decode cX2_drawFigures 0 = .ok (.iload_n 1, 1) := by decide +kernel
theorem dX2_drawFigures_1 : decode cX2_drawFigures 1 = .ok (.istore_n 2, 1) := by decide +kernel
theorem dX2_drawFigures_2 : decode cX2_drawFigures 2 = .ok (.iconst 0, 1) := by decide +kernel
theorem dX2_drawFigures_3 : decode cX2_drawFigures 3 = .ok (.istore_n 3, 1) := by decide +kernel
theorem dX2_drawFigures_4 : decode cX2_drawFigures 4 = .ok (.iload_n 3, 1) := by decide +kernel
theorem dX2_drawFigures_5 : decode cX2_drawFigures 5 = .ok (.aload_n 0, 1) := by decide +kernel
theorem dX2_drawFigures_6 : decode cX2_drawFigures 6 = .ok (.getfield 31, 3) := by decide +kernel
theorem dX2_drawFigures_9 : decode cX2_drawFigures 9 = .ok (.if_icmp .ge 34, 3) := by decide +kernel
theorem dX2_drawFigures_12 : decode cX2_drawFigures 12 = .ok (.iload_n 2, 1) := by decide +kernel
theorem dX2_drawFigures_13 : decode cX2_drawFigures 13 = .ok (.ldc 151, 2) := by decide +kernel
theorem dX2_drawFigures_15 : decode cX2_drawFigures 15 = .ok (.imul, 1) := by decide +kernel
theorem dX2_drawFigures_16 : decode cX2_drawFigures 16 = .ok (.sipush 12345, 3) := by decide +kernel
theorem dX2_drawFigures_19 : decode cX2_drawFigures 19 = .ok (.iadd, 1) := by decide +kernel
theorem dX2_drawFigures_20 : decode cX2_drawFigures 20 = .ok (.istore_n 2, 1) := by decide +kernel
theorem dX2_drawFigures_21 : decode cX2_drawFigures 21 = .ok (.aload_n 0, 1) := by decide +kernel
theorem dX2_drawFigures_22 : decode cX2_drawFigures 22 = .ok (.getfield 15, 3) := by decide +kernel
theorem dX2_drawFigures_25 : decode cX2_drawFigures 25 = .ok (.iload_n 3, 1) := by decide +kernel
theorem dX2_drawFigures_26 : decode cX2_drawFigures 26 = .ok (.iload_n 2, 1) := by decide +kernel
theorem dX2_drawFigures_27 : decode cX2_drawFigures 27 = .ok (.ldc 152, 2) := by decide +kernel
theorem dX2_drawFigures_29 : decode cX2_drawFigures 29 = .ok (.iand, 1) := by decide +kernel
theorem dX2_drawFigures_30 : decode cX2_drawFigures 30 = .ok (.ldc 153, 2) := by decide +kernel
theorem dX2_drawFigures_32 : decode cX2_drawFigures 32 = .ok (.idiv, 1) := by decide +kernel
theorem dX2_drawFigures_33 : decode cX2_drawFigures 33 = .ok (.bipush 10, 2) := by decide +kernel
theorem dX2_drawFigures_35 : decode cX2_drawFigures 35 = .ok (.irem, 1) := by decide +kernel
theorem dX2_drawFigures_36 : decode cX2_drawFigures 36 = .ok (.iastore, 1) := by decide +kernel
theorem dX2_drawFigures_37 : decode cX2_drawFigures 37 = .ok (.iinc 3 1, 3) := by decide +kernel
theorem dX2_drawFigures_40 : decode cX2_drawFigures 40 = .ok (.goto (-36), 3) := by decide +kernel
theorem dX2_drawFigures_43 : decode cX2_drawFigures 43 = .ok (.iload_n 2, 1) := by decide +kernel
theorem dX2_drawFigures_44 : decode cX2_drawFigures 44 = .ok (.ireturn, 1) := by decide +kernel
theorem dX3_power_0 : decode cX3_power 0 = .ok (.lconst 1, 1) := by decide +kernel
theorem dX3_power_1 : decode cX3_power 1 = .ok (.lstore_n 3, 1) := by decide +kernel
theorem dX3_power_2 : decode cX3_power 2 = .ok (.iconst 0, 1) := by decide +kernel
theorem dX3_power_3 : decode cX3_power 3 = .ok (.istore 5, 2) := by decide +kernel
theorem dX3_power_5 : decode cX3_power 5 = .ok (.iload 5, 2) := by decide +kernel
theorem dX3_power_7 : decode cX3_power 7 = .ok (.iload_n 2, 1) := by decide +kernel
theorem dX3_power_8 : decode cX3_power 8 = .ok (.if_icmp .ge 13, 3) := by decide +kernel
theorem dX3_power_11 : decode cX3_power 11 = .ok (.lload_n 3, 1) := by decide +kernel
theorem dX3_power_12 : decode cX3_power 12 = .ok (.lload_n 0, 1) := by decide +kernel
theorem dX3_power_13 : decode cX3_power 13 = .ok (.lmul, 1) := by decide +kernel
theorem dX3_power_14 : decode cX3_power 14 = .ok (.lstore_n 3, 1) := by decide +kernel
theorem dX3_power_15 : decode cX3_power 15 = .ok (.iinc 5 1, 3) := by decide +kernel
theorem dX3_power_18 : decode cX3_power 18 = .ok (.goto (-13), 3) := by decide +kernel
theorem dX3_power_21 : decode cX3_power 21 = .ok (.lload_n 3, 1) := by decide +kernel
theorem dX3_power_22 : decode cX3_power 22 = .ok (.lreturn, 1) := by decide +kernel
theorem dX3_commonDivisor_0 : decode cX3_commonDivisor 0 = .ok (.lload_n 0, 1) := by decide +kernel
theorem dX3_commonDivisor_1 : decode cX3_commonDivisor 1 = .ok (.lstore 4, 2) := by decide +kernel
theorem dX3_commonDivisor_3 : decode cX3_commonDivisor 3 = .ok (.lload_n 2, 1) := by decide +kernel
theorem dX3_commonDivisor_4 : decode cX3_commonDivisor 4 = .ok (.lstore 6, 2) := by decide +kernel
theorem dX3_commonDivisor_6 : decode cX3_commonDivisor 6 = .ok (.iconst 0, 1) := by decide +kernel
theorem dX3_commonDivisor_7 : decode cX3_commonDivisor 7 = .ok (.istore 8, 2) := by decide +kernel
theorem dX3_commonDivisor_9 : decode cX3_commonDivisor 9 = .ok (.iload 8, 2) := by decide +kernel
theorem dX3_commonDivisor_11 : decode cX3_commonDivisor 11 = .ok (.bipush 100, 2) := by decide +kernel
theorem dX3_commonDivisor_13 : decode cX3_commonDivisor 13 = .ok (.if_icmp .ge 31, 3) := by decide +kernel
theorem dX3_commonDivisor_16 : decode cX3_commonDivisor 16 = .ok (.lload 6, 2) := by decide +kernel
theorem dX3_commonDivisor_18 : decode cX3_commonDivisor 18 = .ok (.lconst 0, 1) := by decide +kernel
theorem dX3_commonDivisor_19 : decode cX3_commonDivisor 19 = .ok (.lcmp, 1) := by decide +kernel
theorem dX3_commonDivisor_20 : decode cX3_commonDivisor 20 = .ok (.ifCond .eq 24, 3) := by decide +kernel
theorem dX3_commonDivisor_23 : decode cX3_commonDivisor 23 = .ok (.lload 4, 2) := by decide +kernel
theorem dX3_commonDivisor_25 : decode cX3_commonDivisor 25 = .ok (.lload 6, 2) := by decide +kernel
theorem dX3_commonDivisor_27 : decode cX3_commonDivisor 27 = .ok (.lrem, 1) := by decide +kernel
theorem dX3_commonDivisor_28 : decode cX3_commonDivisor 28 = .ok (.lstore 9, 2) := by decide +kernel
theorem dX3_commonDivisor_30 : decode cX3_commonDivisor 30 = .ok (.lload 6, 2) := by decide +kernel
theorem dX3_commonDivisor_32 : decode cX3_commonDivisor 32 = .ok (.lstore 4, 2) := by decide +kernel
theorem dX3_commonDivisor_34 : decode cX3_commonDivisor 34 = .ok (.lload 9, 2) := by decide +kernel
theorem dX3_commonDivisor_36 : decode cX3_commonDivisor 36 = .ok (.lstore 6, 2) := by decide +kernel
theorem dX3_commonDivisor_38 : decode cX3_commonDivisor 38 = .ok (.iinc 8 1, 3) := by decide +kernel
theorem dX3_commonDivisor_41 : decode cX3_commonDivisor 41 = .ok (.goto (-32), 3) := by decide +kernel
theorem dX3_commonDivisor_44 : decode cX3_commonDivisor 44 = .ok (.lload 4, 2) := by decide +kernel
theorem dX3_commonDivisor_46 : decode cX3_commonDivisor 46 = .ok (.lreturn, 1) := by decide +kernel
theorem dX3_leastTerms_0 : decode cX3_leastTerms 0 = .ok (.lload_n 0, 1) := by decide +kernel
theorem dX3_leastTerms_1 : decode cX3_leastTerms 1 = .ok (.lload_n 2, 1) := by decide +kernel
theorem dX3_leastTerms_2 : decode cX3_leastTerms 2 = .ok (.invokestatic 9, 3) := by decide +kernel
theorem dX3_leastTerms_5 : decode cX3_leastTerms 5 = .ok (.lstore 5, 2) := by decide +kernel
theorem dX3_leastTerms_7 : decode cX3_leastTerms 7 = .ok (.lload_n 2, 1) := by decide +kernel
theorem dX3_leastTerms_8 : decode cX3_leastTerms 8 = .ok (.lconst 0, 1) := by decide +kernel
theorem dX3_leastTerms_9 : decode cX3_leastTerms 9 = .ok (.lcmp, 1) := by decide +kernel
theorem dX3_leastTerms_10 : decode cX3_leastTerms 10 = .ok (.ifCond .eq 10, 3) := by decide +kernel
theorem dX3_leastTerms_13 : decode cX3_leastTerms 13 = .ok (.lload 5, 2) := by decide +kernel
theorem dX3_leastTerms_15 : decode cX3_leastTerms 15 = .ok (.lconst 0, 1) := by decide +kernel
theorem dX3_leastTerms_16 : decode cX3_leastTerms 16 = .ok (.lcmp, 1) := by decide +kernel
theorem dX3_leastTerms_17 : decode cX3_leastTerms 17 = .ok (.ifCond .ne 7, 3) := by decide +kernel
theorem dX3_leastTerms_20 : decode cX3_leastTerms 20 = .ok (.iload 4, 2) := by decide +kernel
theorem dX3_leastTerms_22 : decode cX3_leastTerms 22 = .ok (.i2l, 1) := by decide +kernel
theorem dX3_leastTerms_23 : decode cX3_leastTerms 23 = .ok (.lreturn, 1) := by decide +kernel
theorem dX3_leastTerms_24 : decode cX3_leastTerms 24 = .ok (.iload 4, 2) := by decide +kernel
theorem dX3_leastTerms_26 : decode cX3_leastTerms 26 = .ok (.ifCond .ne 10, 3) := by decide +kernel
theorem dX3_leastTerms_29 : decode cX3_leastTerms 29 = .ok (.lload_n 0, 1) := by decide +kernel
theorem dX3_leastTerms_30 : decode cX3_leastTerms 30 = .ok (.lload 5, 2) := by decide +kernel
theorem dX3_leastTerms_32 : decode cX3_leastTerms 32 = .ok (.ldiv, 1) := by decide +kernel
theorem dX3_leastTerms_33 : decode cX3_leastTerms 33 = .ok (.goto 7, 3) := by decide +kernel
theorem dX3_leastTerms_36 : decode cX3_leastTerms 36 = .ok (.lload_n 2, 1) := by decide +kernel
theorem dX3_leastTerms_37 : decode cX3_leastTerms 37 = .ok (.lload 5, 2) := by decide +kernel
theorem dX3_leastTerms_39 : decode cX3_leastTerms 39 = .ok (.ldiv, 1) := by decide +kernel
theorem dX3_leastTerms_40 : decode cX3_leastTerms 40 = .ok (.lreturn, 1) := by decide +kernel
theorem dX4_init_0 : decode cX4_init 0 = .ok (.aload_n 0, 1) := by decide +kernel
theorem dX4_init_1 : decode cX4_init 1 = .ok (.invokespecial 3, 3) := by decide +kernel
theorem dX4_init_4 : decode cX4_init 4 = .ok (.aload_n 0, 1) := by decide +kernel
theorem dX4_init_5 : decode cX4_init 5 = .ok (.iconst 0, 1) := by decide +kernel
theorem dX4_init_6 : decode cX4_init 6 = .ok (.putfield 11, 3) := by decide +kernel
theorem dX4_init_9 : decode cX4_init 9 = .ok (.aload_n 0, 1) := by decide +kernel
theorem dX4_init_10 : decode cX4_init 10 = .ok (.bipush 100, 2) := by decide +kernel
theorem dX4_init_12 : decode cX4_init 12 = .ok (.newarray .int, 2) := by decide +kernel
theorem dX4_init_14 : decode cX4_init 14 = .ok (.putfield 15, 3) := by decide +kernel
theorem dX4_init_17 : decode cX4_init 17 = .ok (.return_, 1) := by decide +kernel
theorem dX4_getNothing_0 : decode cX4_getNothing 0 = .ok (.aload_n 0, 1) := by decide +kernel
theorem dX4_getNothing_1 : decode cX4_getNothing 1 = .ok (.iconst 0, 1) := by decide +kernel
theorem dX4_getNothing_2 : decode cX4_getNothing 2 = .ok (.putfield 11, 3) := by decide +kernel
theorem dX4_getNothing_5 : decode cX4_getNothing 5 = .ok (.return_, 1) := by decide +kernel
theorem dX4_getBulb_0 : decode cX4_getBulb 0 = .ok (.aload_n 0, 1) := by decide +kernel
theorem dX4_getBulb_1 : decode cX4_getBulb 1 = .ok (.iconst 1, 1) := by decide +kernel
theorem dX4_getBulb_2 : decode cX4_getBulb 2 = .ok (.putfield 11, 3) := by decide +kernel
theorem dX4_getBulb_5 : decode cX4_getBulb 5 = .ok (.aload_n 0, 1) := by decide +kernel
theorem dX4_getBulb_6 : decode cX4_getBulb 6 = .ok (.iload_n 1, 1) := by decide +kernel
theorem dX4_getBulb_7 : decode cX4_getBulb 7 = .ok (.putfield 19, 3) := by decide +kernel
theorem dX4_getBulb_10 : decode cX4_getBulb 10 = .ok (.aload_n 0, 1) := by decide +kernel
theorem dX4_getBulb_11 : decode cX4_getBulb 11 = .ok (.iload_n 2, 1) := by decide +kernel
theorem dX4_getBulb_12 : decode cX4_getBulb 12 = .ok (.putfield 22, 3) := by decide +kernel
theorem dX4_getBulb_15 : decode cX4_getBulb 15 = .ok (.return_, 1) := by decide +kernel
theorem dX4_getRow_0 : decode cX4_getRow 0 = .ok (.aload_n 0, 1) := by decide +kernel
theorem dX4_getRow_1 : decode cX4_getRow 1 = .ok (.iconst 2, 1) := by decide +kernel
theorem dX4_getRow_2 : decode cX4_getRow 2 = .ok (.putfield 11, 3) := by decide +kernel
theorem dX4_getRow_5 : decode cX4_getRow 5 = .ok (.aload_n 0, 1) := by decide +kernel
theorem dX4_getRow_6 : decode cX4_getRow 6 = .ok (.iload_n 1, 1) := by decide +kernel
theorem dX4_getRow_7 : decode cX4_getRow 7 = .ok (.putfield 25, 3) := by decide +kernel
theorem dX4_getRow_10 : decode cX4_getRow 10 = .ok (.aload_n 0, 1) := by decide +kernel
theorem dX4_getRow_11 : decode cX4_getRow 11 = .ok (.iload_n 2, 1) := by decide +kernel
theorem dX4_getRow_12 : decode cX4_getRow 12 = .ok (.putfield 28, 3) := by decide +kernel
theorem dX4_getRow_15 : decode cX4_getRow 15 = .ok (.iconst 0, 1) := by decide +kernel
theorem dX4_getRow_16 : decode cX4_getRow 16 = .ok (.istore_n 3, 1) := by decide +kernel
theorem dX4_getRow_17 : decode cX4_getRow 17 = .ok (.iload_n 3, 1) := by decide +kernel
theorem dX4_getRow_18 : decode cX4_getRow 18 = .ok (.bipush 100, 2) := by decide +kernel
theorem dX4_getRow_20 : decode cX4_getRow 20 = .ok (.if_icmp .ge 16, 3) := by decide +kernel
theorem dX4_getRow_23 : decode cX4_getRow 23 = .ok (.aload_n 0, 1) := by decide +kernel
theorem dX4_getRow_24 : decode cX4_getRow 24 = .ok (.getfield 15, 3) := by decide +kernel
theorem dX4_getRow_27 : decode cX4_getRow 27 = .ok (.iload_n 3, 1) := by decide +kernel
theorem dX4_getRow_28 : decode cX4_getRow 28 = .ok (.iconst 0, 1) := by decide +kernel
theorem dX4_getRow_29 : decode cX4_getRow 29 = .ok (.iastore, 1) := by decide +kernel
theorem dX4_getRow_30 : decode cX4_getRow 30 = .ok (.iinc 3 1, 3) := by decide +kernel
theorem dX4_getRow_33 : decode cX4_getRow 33 = .ok (.goto (-16), 3) := by decide +kernel
theorem dX4_getRow_36 : decode cX4_getRow 36 = .ok (.return_, 1) := by decide +kernel
theorem dX4_hasPlace_0 : decode cX4_hasPlace 0 = .ok (.iload_n 1, 1) := by decide +kernel
theorem dX4_hasPlace_1 : decode cX4_hasPlace 1 = .ok (.ifCond .lt 15, 3) := by decide +kernel
theorem dX4_hasPlace_4 : decode cX4_hasPlace 4 = .ok (.iload_n 1, 1) := by decide +kernel
theorem dX4_hasPlace_5 : decode cX4_hasPlace 5 = .ok (.aload_n 0, 1) := by decide +kernel
theorem dX4_hasPlace_6 : decode cX4_hasPlace 6 = .ok (.getfield 28, 3) := by decide +kernel
theorem dX4_hasPlace_9 : decode cX4_hasPlace 9 = .ok (.if_icmp .ge 7, 3) := by decide +kernel
theorem dX4_hasPlace_12 : decode cX4_hasPlace 12 = .ok (.iconst 1, 1) := by decide +kernel
theorem dX4_hasPlace_13 : decode cX4_hasPlace 13 = .ok (.goto 4, 3) := by decide +kernel
theorem dX4_hasPlace_16 : decode cX4_hasPlace 16 = .ok (.iconst 0, 1) := by decide +kernel
theorem dX4_hasPlace_17 : decode cX4_hasPlace 17 = .ok (.ireturn, 1) := by decide +kernel
theorem dX4_hasStretch_0 : decode cX4_hasStretch 0 = .ok (.iload_n 2, 1) := by decide +kernel
theorem dX4_hasStretch_1 : decode cX4_hasStretch 1 = .ok (.ifCond .lt 29, 3) := by decide +kernel
theorem dX4_hasStretch_4 : decode cX4_hasStretch 4 = .ok (.iload_n 2, 1) := by decide +kernel
theorem dX4_hasStretch_5 : decode cX4_hasStretch 5 = .ok (.aload_n 0, 1) := by decide +kernel
theorem dX4_hasStretch_6 : decode cX4_hasStretch 6 = .ok (.getfield 28, 3) := by decide +kernel
theorem dX4_hasStretch_9 : decode cX4_hasStretch 9 = .ok (.if_icmp .gt 21, 3) := by decide +kernel
theorem dX4_hasStretch_12 : decode cX4_hasStretch 12 = .ok (.iload_n 1, 1) := by decide +kernel
theorem dX4_hasStretch_13 : decode cX4_hasStretch 13 = .ok (.ifCond .lt 17, 3) := by decide +kernel
theorem dX4_hasStretch_16 : decode cX4_hasStretch 16 = .ok (.iload_n 1, 1) := by decide +kernel
theorem dX4_hasStretch_17 : decode cX4_hasStretch 17 = .ok (.aload_n 0, 1) := by decide +kernel
theorem dX4_hasStretch_18 : decode cX4_hasStretch 18 = .ok (.getfield 28, 3) := by decide +kernel
theorem dX4_hasStretch_21 : decode cX4_hasStretch 21 = .ok (.iload_n 2, 1) := by decide +kernel
theorem dX4_hasStretch_22 : decode cX4_hasStretch 22 = .ok (.isub, 1) := by decide +kernel
theorem dX4_hasStretch_23 : decode cX4_hasStretch 23 = .ok (.if_icmp .gt 7, 3) := by decide +kernel
theorem dX4_hasStretch_26 : decode cX4_hasStretch 26 = .ok (.iconst 1, 1) := by decide +kernel
theorem dX4_hasStretch_27 : decode cX4_hasStretch 27 = .ok (.goto 4, 3) := by decide +kernel
theorem dX4_hasStretch_30 : decode cX4_hasStretch 30 = .ok (.iconst 0, 1) := by decide +kernel
theorem dX4_hasStretch_31 : decode cX4_hasStretch 31 = .ok (.ireturn, 1) := by decide +kernel
theorem dX4_set_0 : decode cX4_set 0 = .ok (.aload_n 0, 1) := by decide +kernel
theorem dX4_set_1 : decode cX4_set 1 = .ok (.getfield 25, 3) := by decide +kernel
theorem dX4_set_4 : decode cX4_set 4 = .ok (.ifCond .ne 14, 3) := by decide +kernel
theorem dX4_set_7 : decode cX4_set 7 = .ok (.aload_n 0, 1) := by decide +kernel
theorem dX4_set_8 : decode cX4_set 8 = .ok (.getfield 15, 3) := by decide +kernel
theorem dX4_set_11 : decode cX4_set 11 = .ok (.iload_n 1, 1) := by decide +kernel
theorem dX4_set_12 : decode cX4_set 12 = .ok (.iload_n 2, 1) := by decide +kernel
theorem dX4_set_13 : decode cX4_set 13 = .ok (.i2b, 1) := by decide +kernel
theorem dX4_set_14 : decode cX4_set 14 = .ok (.iastore, 1) := by decide +kernel
theorem dX4_set_15 : decode cX4_set 15 = .ok (.goto 29, 3) := by decide +kernel
theorem dX4_set_18 : decode cX4_set 18 = .ok (.aload_n 0, 1) := by decide +kernel
theorem dX4_set_19 : decode cX4_set 19 = .ok (.getfield 25, 3) := by decide +kernel
theorem dX4_set_22 : decode cX4_set 22 = .ok (.iconst 1, 1) := by decide +kernel
theorem dX4_set_23 : decode cX4_set 23 = .ok (.if_icmp .ne 14, 3) := by decide +kernel
theorem dX4_set_26 : decode cX4_set 26 = .ok (.aload_n 0, 1) := by decide +kernel
theorem dX4_set_27 : decode cX4_set 27 = .ok (.getfield 15, 3) := by decide +kernel
theorem dX4_set_30 : decode cX4_set 30 = .ok (.iload_n 1, 1) := by decide +kernel
theorem dX4_set_31 : decode cX4_set 31 = .ok (.iload_n 2, 1) := by decide +kernel
theorem dX4_set_32 : decode cX4_set 32 = .ok (.i2s, 1) := by decide +kernel
theorem dX4_set_33 : decode cX4_set 33 = .ok (.iastore, 1) := by decide +kernel
theorem dX4_set_34 : decode cX4_set 34 = .ok (.goto 10, 3) := by decide +kernel
theorem dX4_set_37 : decode cX4_set 37 = .ok (.aload_n 0, 1) := by decide +kernel
theorem dX4_set_38 : decode cX4_set 38 = .ok (.getfield 15, 3) := by decide +kernel
theorem dX4_set_41 : decode cX4_set 41 = .ok (.iload_n 1, 1) := by decide +kernel
theorem dX4_set_42 : decode cX4_set 42 = .ok (.iload_n 2, 1) := by decide +kernel
theorem dX4_set_43 : decode cX4_set 43 = .ok (.iastore, 1) := by decide +kernel
theorem dX4_set_44 : decode cX4_set 44 = .ok (.return_, 1) := by decide +kernel
theorem dX4_isSkipped_0 : decode cX4_isSkipped 0 = .ok (.aload_n 0, 1) := by decide +kernel
theorem dX4_isSkipped_1 : decode cX4_isSkipped 1 = .ok (.getfield 25, 3) := by decide +kernel
theorem dX4_isSkipped_4 : decode cX4_isSkipped 4 = .ok (.ifCond .ne 20, 3) := by decide +kernel
theorem dX4_isSkipped_7 : decode cX4_isSkipped 7 = .ok (.aload_n 0, 1) := by decide +kernel
theorem dX4_isSkipped_8 : decode cX4_isSkipped 8 = .ok (.getfield 15, 3) := by decide +kernel
theorem dX4_isSkipped_11 : decode cX4_isSkipped 11 = .ok (.iload_n 1, 1) := by decide +kernel
theorem dX4_isSkipped_12 : decode cX4_isSkipped 12 = .ok (.iaload, 1) := by decide +kernel
theorem dX4_isSkipped_13 : decode cX4_isSkipped 13 = .ok (.bipush (-128), 2) := by decide +kernel
theorem dX4_isSkipped_15 : decode cX4_isSkipped 15 = .ok (.if_icmp .ne 7, 3) := by decide +kernel
theorem dX4_isSkipped_18 : decode cX4_isSkipped 18 = .ok (.iconst 1, 1) := by decide +kernel
theorem dX4_isSkipped_19 : decode cX4_isSkipped 19 = .ok (.goto 4, 3) := by decide +kernel
theorem dX4_isSkipped_22 : decode cX4_isSkipped 22 = .ok (.iconst 0, 1) := by decide +kernel
theorem dX4_isSkipped_23 : decode cX4_isSkipped 23 = .ok (.ireturn, 1) := by decide +kernel
theorem dX4_isSkipped_24 : decode cX4_isSkipped 24 = .ok (.aload_n 0, 1) := by decide +kernel
theorem dX4_isSkipped_25 : decode cX4_isSkipped 25 = .ok (.getfield 15, 3) := by decide +kernel
theorem dX4_isSkipped_28 : decode cX4_isSkipped 28 = .ok (.iload_n 1, 1) := by decide +kernel
theorem dX4_isSkipped_29 : decode cX4_isSkipped 29 = .ok (.iaload, 1) := by decide +kernel
theorem dX4_isSkipped_30 : decode cX4_isSkipped 30 = .ok (.aload_n 0, 1) := by decide +kernel
theorem dX4_isSkipped_31 : decode cX4_isSkipped 31 = .ok (.getfield 25, 3) := by decide +kernel
theorem dX4_isSkipped_34 : decode cX4_isSkipped 34 = .ok (.iconst 1, 1) := by decide +kernel
theorem dX4_isSkipped_35 : decode cX4_isSkipped 35 = .ok (.if_icmp .ne 9, 3) := by decide +kernel
theorem dX4_isSkipped_38 : decode cX4_isSkipped 38 = .ok (.sipush (-32768), 3) := by decide +kernel
theorem dX4_isSkipped_41 : decode cX4_isSkipped 41 = .ok (.goto 5, 3) := by decide +kernel
theorem dX4_isSkipped_44 : decode cX4_isSkipped 44 = .ok (.ldc 31, 2) := by decide +kernel
theorem dX4_isSkipped_46 : decode cX4_isSkipped 46 = .ok (.if_icmp .ne 7, 3) := by decide +kernel
theorem dX4_isSkipped_49 : decode cX4_isSkipped 49 = .ok (.iconst 1, 1) := by decide +kernel
theorem dX4_isSkipped_50 : decode cX4_isSkipped 50 = .ok (.goto 4, 3) := by decide +kernel
theorem dX4_isSkipped_53 : decode cX4_isSkipped 53 = .ok (.iconst 0, 1) := by decide +kernel
theorem dX4_isSkipped_54 : decode cX4_isSkipped 54 = .ok (.ireturn, 1) := by decide +kernel
theorem dX4_toldSize_0 : decode cX4_toldSize 0 = .ok (.iconst 0, 1) := by decide +kernel
theorem dX4_toldSize_1 : decode cX4_toldSize 1 = .ok (.istore_n 1, 1) := by decide +kernel
theorem dX4_toldSize_2 : decode cX4_toldSize 2 = .ok (.iconst 0, 1) := by decide +kernel
theorem dX4_toldSize_3 : decode cX4_toldSize 3 = .ok (.istore_n 2, 1) := by decide +kernel
theorem dX4_toldSize_4 : decode cX4_toldSize 4 = .ok (.iload_n 2, 1) := by decide +kernel
theorem dX4_toldSize_5 : decode cX4_toldSize 5 = .ok (.aload_n 0, 1) := by decide +kernel
theorem dX4_toldSize_6 : decode cX4_toldSize 6 = .ok (.getfield 28, 3) := by decide +kernel
theorem dX4_toldSize_9 : decode cX4_toldSize 9 = .ok (.if_icmp .ge 21, 3) := by decide +kernel
theorem dX4_toldSize_12 : decode cX4_toldSize 12 = .ok (.aload_n 0, 1) := by decide +kernel
theorem dX4_toldSize_13 : decode cX4_toldSize 13 = .ok (.iload_n 2, 1) := by decide +kernel
theorem dX4_toldSize_14 : decode cX4_toldSize 14 = .ok (.invokevirtual 32, 3) := by decide +kernel
theorem dX4_toldSize_17 : decode cX4_toldSize 17 = .ok (.ifCond .ne 7, 3) := by decide +kernel
theorem dX4_toldSize_20 : decode cX4_toldSize 20 = .ok (.iload_n 2, 1) := by decide +kernel
theorem dX4_toldSize_21 : decode cX4_toldSize 21 = .ok (.iconst 1, 1) := by decide +kernel
theorem dX4_toldSize_22 : decode cX4_toldSize 22 = .ok (.iadd, 1) := by decide +kernel
theorem dX4_toldSize_23 : decode cX4_toldSize 23 = .ok (.istore_n 1, 1) := by decide +kernel
theorem dX4_toldSize_24 : decode cX4_toldSize 24 = .ok (.iinc 2 1, 3) := by decide +kernel
theorem dX4_toldSize_27 : decode cX4_toldSize 27 = .ok (.goto (-23), 3) := by decide +kernel
theorem dX4_toldSize_30 : decode cX4_toldSize 30 = .ok (.iload_n 1, 1) := by decide +kernel
theorem dX4_toldSize_31 : decode cX4_toldSize 31 = .ok (.ireturn, 1) := by decide +kernel
theorem dX5_life_0 : decode cX5_life 0 = .ok (.bipush 60, 2) := by decide +kernel
theorem dX5_life_2 : decode cX5_life 2 = .ok (.bipush 10, 2) := by decide +kernel
theorem dX5_life_4 : decode cX5_life 4 = .ok (.iload_n 1, 1) := by decide +kernel
theorem dX5_life_5 : decode cX5_life 5 = .ok (.imul, 1) := by decide +kernel
theorem dX5_life_6 : decode cX5_life 6 = .ok (.iadd, 1) := by decide +kernel
theorem dX5_life_7 : decode cX5_life 7 = .ok (.istore_n 2, 1) := by decide +kernel
theorem dX5_life_8 : decode cX5_life 8 = .ok (.iload_n 2, 1) := by decide +kernel
theorem dX5_life_9 : decode cX5_life 9 = .ok (.bipush 20, 2) := by decide +kernel
theorem dX5_life_11 : decode cX5_life 11 = .ok (.isub, 1) := by decide +kernel
theorem dX5_life_12 : decode cX5_life 12 = .ok (.istore_n 3, 1) := by decide +kernel
theorem dX5_life_13 : decode cX5_life 13 = .ok (.iload_n 0, 1) := by decide +kernel
theorem dX5_life_14 : decode cX5_life 14 = .ok (.tableswitch 52 2 7 #[38, 52, 52, 42, 44, 48], 38) := by decide +kernel
theorem dX5_life_52 : decode cX5_life 52 = .ok (.iload_n 2, 1) := by decide +kernel
theorem dX5_life_53 : decode cX5_life 53 = .ok (.iconst 2, 1) := by decide +kernel
theorem dX5_life_54 : decode cX5_life 54 = .ok (.idiv, 1) := by decide +kernel
theorem dX5_life_55 : decode cX5_life 55 = .ok (.ireturn, 1) := by decide +kernel
theorem dX5_life_56 : decode cX5_life 56 = .ok (.iload_n 3, 1) := by decide +kernel
theorem dX5_life_57 : decode cX5_life 57 = .ok (.ireturn, 1) := by decide +kernel
theorem dX5_life_58 : decode cX5_life 58 = .ok (.sipush 150, 3) := by decide +kernel
theorem dX5_life_61 : decode cX5_life 61 = .ok (.ireturn, 1) := by decide +kernel
theorem dX5_life_62 : decode cX5_life 62 = .ok (.iconst 2, 1) := by decide +kernel
theorem dX5_life_63 : decode cX5_life 63 = .ok (.iload_n 3, 1) := by decide +kernel
theorem dX5_life_64 : decode cX5_life 64 = .ok (.imul, 1) := by decide +kernel
theorem dX5_life_65 : decode cX5_life 65 = .ok (.ireturn, 1) := by decide +kernel
theorem dX5_life_66 : decode cX5_life 66 = .ok (.iload_n 2, 1) := by decide +kernel
theorem dX5_life_67 : decode cX5_life 67 = .ok (.ireturn, 1) := by decide +kernel
theorem dX5_glow_0 : decode cX5_glow 0 = .ok (.iconst 4, 1) := by decide +kernel
theorem dX5_glow_1 : decode cX5_glow 1 = .ok (.istore_n 2, 1) := by decide +kernel
theorem dX5_glow_2 : decode cX5_glow 2 = .ok (.iload_n 2, 1) := by decide +kernel
theorem dX5_glow_3 : decode cX5_glow 3 = .ok (.iconst 1, 1) := by decide +kernel
theorem dX5_glow_4 : decode cX5_glow 4 = .ok (.isub, 1) := by decide +kernel
theorem dX5_glow_5 : decode cX5_glow 5 = .ok (.istore_n 3, 1) := by decide +kernel
theorem dX5_glow_6 : decode cX5_glow 6 = .ok (.iload_n 0, 1) := by decide +kernel
theorem dX5_glow_7 : decode cX5_glow 7 = .ok (.tableswitch 53 2 7 #[37, 39, 53, 41, 43, 49], 37) := by decide +kernel
theorem dX5_glow_44 : decode cX5_glow 44 = .ok (.iconst 1, 1) := by decide +kernel
theorem dX5_glow_45 : decode cX5_glow 45 = .ok (.ireturn, 1) := by decide +kernel
theorem dX5_glow_46 : decode cX5_glow 46 = .ok (.iconst 0, 1) := by decide +kernel
theorem dX5_glow_47 : decode cX5_glow 47 = .ok (.ireturn, 1) := by decide +kernel
theorem dX5_glow_48 : decode cX5_glow 48 = .ok (.iload_n 3, 1) := by decide +kernel
theorem dX5_glow_49 : decode cX5_glow 49 = .ok (.ireturn, 1) := by decide +kernel
theorem dX5_glow_50 : decode cX5_glow 50 = .ok (.iload_n 2, 1) := by decide +kernel
theorem dX5_glow_51 : decode cX5_glow 51 = .ok (.iload_n 1, 1) := by decide +kernel
theorem dX5_glow_52 : decode cX5_glow 52 = .ok (.iconst 2, 1) := by decide +kernel
theorem dX5_glow_53 : decode cX5_glow 53 = .ok (.idiv, 1) := by decide +kernel
theorem dX5_glow_54 : decode cX5_glow 54 = .ok (.iadd, 1) := by decide +kernel
theorem dX5_glow_55 : decode cX5_glow 55 = .ok (.ireturn, 1) := by decide +kernel
theorem dX5_glow_56 : decode cX5_glow 56 = .ok (.iload_n 3, 1) := by decide +kernel
theorem dX5_glow_57 : decode cX5_glow 57 = .ok (.iconst 2, 1) := by decide +kernel
theorem dX5_glow_58 : decode cX5_glow 58 = .ok (.iadd, 1) := by decide +kernel
theorem dX5_glow_59 : decode cX5_glow 59 = .ok (.ireturn, 1) := by decide +kernel
theorem dX5_glow_60 : decode cX5_glow 60 = .ok (.iload_n 2, 1) := by decide +kernel
theorem dX5_glow_61 : decode cX5_glow 61 = .ok (.ireturn, 1) := by decide +kernel
theorem dX5_price_0 : decode cX5_price 0 = .ok (.iconst 2, 1) := by decide +kernel
theorem dX5_price_1 : decode cX5_price 1 = .ok (.iload_n 1, 1) := by decide +kernel
theorem dX5_price_2 : decode cX5_price 2 = .ok (.imul, 1) := by decide +kernel
theorem dX5_price_3 : decode cX5_price 3 = .ok (.istore_n 2, 1) := by decide +kernel
theorem dX5_price_4 : decode cX5_price 4 = .ok (.iload_n 0, 1) := by decide +kernel
theorem dX5_price_5 : decode cX5_price 5 = .ok (.tableswitch 62 1 7 #[43, 45, 49, 51, 54, 56, 58], 43) := by decide +kernel
theorem dX5_price_48 : decode cX5_price 48 = .ok (.iconst 1, 1) := by decide +kernel
theorem dX5_price_49 : decode cX5_price 49 = .ok (.ireturn, 1) := by decide +kernel
theorem dX5_price_50 : decode cX5_price 50 = .ok (.iload_n 1, 1) := by decide +kernel
theorem dX5_price_51 : decode cX5_price 51 = .ok (.iconst 2, 1) := by decide +kernel
theorem dX5_price_52 : decode cX5_price 52 = .ok (.iadd, 1) := by decide +kernel
theorem dX5_price_53 : decode cX5_price 53 = .ok (.ireturn, 1) := by decide +kernel
theorem dX5_price_54 : decode cX5_price 54 = .ok (.iconst 0, 1) := by decide +kernel
theorem dX5_price_55 : decode cX5_price 55 = .ok (.ireturn, 1) := by decide +kernel
theorem dX5_price_56 : decode cX5_price 56 = .ok (.bipush 7, 2) := by decide +kernel
theorem dX5_price_58 : decode cX5_price 58 = .ok (.ireturn, 1) := by decide +kernel
theorem dX5_price_59 : decode cX5_price 59 = .ok (.iload_n 2, 1) := by decide +kernel
theorem dX5_price_60 : decode cX5_price 60 = .ok (.ireturn, 1) := by decide +kernel
theorem dX5_price_61 : decode cX5_price 61 = .ok (.iconst 3, 1) := by decide +kernel
theorem dX5_price_62 : decode cX5_price 62 = .ok (.ireturn, 1) := by decide +kernel
theorem dX5_price_63 : decode cX5_price 63 = .ok (.iload_n 2, 1) := by decide +kernel
theorem dX5_price_64 : decode cX5_price 64 = .ok (.iconst 1, 1) := by decide +kernel
theorem dX5_price_65 : decode cX5_price 65 = .ok (.iadd, 1) := by decide +kernel
theorem dX5_price_66 : decode cX5_price 66 = .ok (.ireturn, 1) := by decide +kernel
theorem dX5_price_67 : decode cX5_price 67 = .ok (.iload_n 1, 1) := by decide +kernel
theorem dX5_price_68 : decode cX5_price 68 = .ok (.ireturn, 1) := by decide +kernel
theorem dX5_failure_0 : decode cX5_failure 0 = .ok (.iload_n 1, 1) := by decide +kernel
theorem dX5_failure_1 : decode cX5_failure 1 = .ok (.ifCond .ne 6, 3) := by decide +kernel
theorem dX5_failure_4 : decode cX5_failure 4 = .ok (.bipush (-15), 2) := by decide +kernel
theorem dX5_failure_6 : decode cX5_failure 6 = .ok (.ireturn, 1) := by decide +kernel
theorem dX5_failure_7 : decode cX5_failure 7 = .ok (.iload_n 0, 1) := by decide +kernel
theorem dX5_failure_8 : decode cX5_failure 8 = .ok (.tableswitch 58 2 7 #[40, 40, 43, 48, 40, 48], 40) := by decide +kernel
theorem dX5_failure_48 : decode cX5_failure 48 = .ok (.bipush (-15), 2) := by decide +kernel
theorem dX5_failure_50 : decode cX5_failure 50 = .ok (.ireturn, 1) := by decide +kernel
theorem dX5_failure_51 : decode cX5_failure 51 = .ok (.bipush 100, 2) := by decide +kernel
theorem dX5_failure_53 : decode cX5_failure 53 = .ok (.iload_n 1, 1) := by decide +kernel
theorem dX5_failure_54 : decode cX5_failure 54 = .ok (.iadd, 1) := by decide +kernel
theorem dX5_failure_55 : decode cX5_failure 55 = .ok (.ireturn, 1) := by decide +kernel
theorem dX5_failure_56 : decode cX5_failure 56 = .ok (.sipush 200, 3) := by decide +kernel
theorem dX5_failure_59 : decode cX5_failure 59 = .ok (.iload_n 0, 1) := by decide +kernel
theorem dX5_failure_60 : decode cX5_failure 60 = .ok (.iload_n 1, 1) := by decide +kernel
theorem dX5_failure_61 : decode cX5_failure 61 = .ok (.invokestatic 9, 3) := by decide +kernel
theorem dX5_failure_64 : decode cX5_failure 64 = .ok (.iadd, 1) := by decide +kernel
theorem dX5_failure_65 : decode cX5_failure 65 = .ok (.ireturn, 1) := by decide +kernel
theorem dX5_failure_66 : decode cX5_failure 66 = .ok (.iload_n 1, 1) := by decide +kernel
theorem dX5_failure_67 : decode cX5_failure 67 = .ok (.ireturn, 1) := by decide +kernel
theorem dX6_comes_0 : decode cX6_comes 0 = .ok (.aload_n 0, 1) := by decide +kernel
theorem dX6_comes_1 : decode cX6_comes 1 = .ok (.invokestatic 9, 3) := by decide +kernel
theorem dX6_comes_4 : decode cX6_comes 4 = .ok (.istore_n 2, 1) := by decide +kernel
theorem dX6_comes_5 : decode cX6_comes 5 = .ok (.iload_n 2, 1) := by decide +kernel
theorem dX6_comes_6 : decode cX6_comes 6 = .ok (.ifCond .lt 9, 3) := by decide +kernel
theorem dX6_comes_9 : decode cX6_comes 9 = .ok (.sipush (-1000), 3) := by decide +kernel
theorem dX6_comes_12 : decode cX6_comes 12 = .ok (.iload_n 2, 1) := by decide +kernel
theorem dX6_comes_13 : decode cX6_comes 13 = .ok (.isub, 1) := by decide +kernel
theorem dX6_comes_14 : decode cX6_comes 14 = .ok (.ireturn, 1) := by decide +kernel
theorem dX6_comes_15 : decode cX6_comes 15 = .ok (.iconst 0, 1) := by decide +kernel
theorem dX6_comes_16 : decode cX6_comes 16 = .ok (.istore_n 3, 1) := by decide +kernel
theorem dX6_comes_17 : decode cX6_comes 17 = .ok (.iconst 0, 1) := by decide +kernel
theorem dX6_comes_18 : decode cX6_comes 18 = .ok (.istore 4, 2) := by decide +kernel
theorem dX6_comes_20 : decode cX6_comes 20 = .ok (.iload 4, 2) := by decide +kernel
theorem dX6_comes_22 : decode cX6_comes 22 = .ok (.aload_n 0, 1) := by decide +kernel
theorem dX6_comes_23 : decode cX6_comes 23 = .ok (.getfield 15, 3) := by decide +kernel
theorem dX6_comes_26 : decode cX6_comes 26 = .ok (.if_icmp .ge 43, 3) := by decide +kernel
theorem dX6_comes_29 : decode cX6_comes 29 = .ok (.aload_n 0, 1) := by decide +kernel
theorem dX6_comes_30 : decode cX6_comes 30 = .ok (.iload 4, 2) := by decide +kernel
theorem dX6_comes_32 : decode cX6_comes 32 = .ok (.aload_n 1, 1) := by decide +kernel
theorem dX6_comes_33 : decode cX6_comes 33 = .ok (.invokestatic 21, 3) := by decide +kernel
theorem dX6_comes_36 : decode cX6_comes 36 = .ok (.ifCond .ne 10, 3) := by decide +kernel
theorem dX6_comes_39 : decode cX6_comes 39 = .ok (.sipush (-2000), 3) := by decide +kernel
theorem dX6_comes_42 : decode cX6_comes 42 = .ok (.iload 4, 2) := by decide +kernel
theorem dX6_comes_44 : decode cX6_comes 44 = .ok (.isub, 1) := by decide +kernel
theorem dX6_comes_45 : decode cX6_comes 45 = .ok (.ireturn, 1) := by decide +kernel
theorem dX6_comes_46 : decode cX6_comes 46 = .ok (.iinc 3 1, 3) := by decide +kernel
theorem dX6_comes_49 : decode cX6_comes 49 = .ok (.iload 4, 2) := by decide +kernel
theorem dX6_comes_51 : decode cX6_comes 51 = .ok (.aload_n 0, 1) := by decide +kernel
theorem dX6_comes_52 : decode cX6_comes 52 = .ok (.getfield 25, 3) := by decide +kernel
theorem dX6_comes_55 : decode cX6_comes 55 = .ok (.iload 4, 2) := by decide +kernel
theorem dX6_comes_57 : decode cX6_comes 57 = .ok (.iaload, 1) := by decide +kernel
theorem dX6_comes_58 : decode cX6_comes 58 = .ok (.invokestatic 29, 3) := by decide +kernel
theorem dX6_comes_61 : decode cX6_comes 61 = .ok (.iadd, 1) := by decide +kernel
theorem dX6_comes_62 : decode cX6_comes 62 = .ok (.iconst 2, 1) := by decide +kernel
theorem dX6_comes_63 : decode cX6_comes 63 = .ok (.iadd, 1) := by decide +kernel
theorem dX6_comes_64 : decode cX6_comes 64 = .ok (.istore 4, 2) := by decide +kernel
theorem dX6_comes_66 : decode cX6_comes 66 = .ok (.goto (-46), 3) := by decide +kernel
theorem dX6_comes_69 : decode cX6_comes 69 = .ok (.iload_n 3, 1) := by decide +kernel
theorem dX6_comes_70 : decode cX6_comes 70 = .ok (.ireturn, 1) := by decide +kernel
theorem dX6_digitsBehind_0 : decode cX6_digitsBehind 0 = .ok (.iload_n 0, 1) := by decide +kernel
theorem dX6_digitsBehind_1 : decode cX6_digitsBehind 1 = .ok (.tableswitch 111 98 119 #[105, 111, 111, 111, 111, 111, 105, 111, 111, 111, 111, 111, 111, 103, 111, 111, 111, 103, 103, 107, 111, 109], 103) := by decide +kernel
theorem dX6_digitsBehind_104 : decode cX6_digitsBehind 104 = .ok (.iconst 1, 1) := by decide +kernel
theorem dX6_digitsBehind_105 : decode cX6_digitsBehind 105 = .ok (.ireturn, 1) := by decide +kernel
theorem dX6_digitsBehind_106 : decode cX6_digitsBehind 106 = .ok (.iconst 2, 1) := by decide +kernel
theorem dX6_digitsBehind_107 : decode cX6_digitsBehind 107 = .ok (.ireturn, 1) := by decide +kernel
theorem dX6_digitsBehind_108 : decode cX6_digitsBehind 108 = .ok (.iconst 3, 1) := by decide +kernel
theorem dX6_digitsBehind_109 : decode cX6_digitsBehind 109 = .ok (.ireturn, 1) := by decide +kernel
theorem dX6_digitsBehind_110 : decode cX6_digitsBehind 110 = .ok (.iconst 4, 1) := by decide +kernel
theorem dX6_digitsBehind_111 : decode cX6_digitsBehind 111 = .ok (.ireturn, 1) := by decide +kernel
theorem dX6_digitsBehind_112 : decode cX6_digitsBehind 112 = .ok (.iconst 0, 1) := by decide +kernel
theorem dX6_digitsBehind_113 : decode cX6_digitsBehind 113 = .ok (.ireturn, 1) := by decide +kernel
theorem dX6_firstWrong_0 : decode cX6_firstWrong 0 = .ok (.iconst 0, 1) := by decide +kernel
theorem dX6_firstWrong_1 : decode cX6_firstWrong 1 = .ok (.istore_n 1, 1) := by decide +kernel
theorem dX6_firstWrong_2 : decode cX6_firstWrong 2 = .ok (.aload_n 0, 1) := by decide +kernel
theorem dX6_firstWrong_3 : decode cX6_firstWrong 3 = .ok (.iload_n 1, 1) := by decide +kernel
theorem dX6_firstWrong_4 : decode cX6_firstWrong 4 = .ok (.invokevirtual 33, 3) := by decide +kernel
theorem dX6_firstWrong_7 : decode cX6_firstWrong 7 = .ok (.ifCond .eq 15, 3) := by decide +kernel
theorem dX6_firstWrong_10 : decode cX6_firstWrong 10 = .ok (.aload_n 0, 1) := by decide +kernel
theorem dX6_firstWrong_11 : decode cX6_firstWrong 11 = .ok (.getfield 25, 3) := by decide +kernel
theorem dX6_firstWrong_14 : decode cX6_firstWrong 14 = .ok (.iload_n 1, 1) := by decide +kernel
theorem dX6_firstWrong_15 : decode cX6_firstWrong 15 = .ok (.iaload, 1) := by decide +kernel
theorem dX6_firstWrong_16 : decode cX6_firstWrong 16 = .ok (.invokestatic 29, 3) := by decide +kernel
theorem dX6_firstWrong_19 : decode cX6_firstWrong 19 = .ok (.goto 4, 3) := by decide +kernel
theorem dX6_firstWrong_22 : decode cX6_firstWrong 22 = .ok (.iconst 0, 1) := by decide +kernel
theorem dX6_firstWrong_23 : decode cX6_firstWrong 23 = .ok (.istore_n 2, 1) := by decide +kernel
theorem dX6_firstWrong_24 : decode cX6_firstWrong 24 = .ok (.iload_n 2, 1) := by decide +kernel
theorem dX6_firstWrong_25 : decode cX6_firstWrong 25 = .ok (.ifCond .ne 5, 3) := by decide +kernel
theorem dX6_firstWrong_28 : decode cX6_firstWrong 28 = .ok (.iload_n 1, 1) := by decide +kernel
theorem dX6_firstWrong_29 : decode cX6_firstWrong 29 = .ok (.ireturn, 1) := by decide +kernel
theorem dX6_firstWrong_30 : decode cX6_firstWrong 30 = .ok (.iinc 1 1, 3) := by decide +kernel
theorem dX6_firstWrong_33 : decode cX6_firstWrong 33 = .ok (.iconst 0, 1) := by decide +kernel
theorem dX6_firstWrong_34 : decode cX6_firstWrong 34 = .ok (.istore_n 3, 1) := by decide +kernel
theorem dX6_firstWrong_35 : decode cX6_firstWrong 35 = .ok (.iload_n 3, 1) := by decide +kernel
theorem dX6_firstWrong_36 : decode cX6_firstWrong 36 = .ok (.iload_n 2, 1) := by decide +kernel
theorem dX6_firstWrong_37 : decode cX6_firstWrong 37 = .ok (.if_icmp .ge 22, 3) := by decide +kernel
theorem dX6_firstWrong_40 : decode cX6_firstWrong 40 = .ok (.aload_n 0, 1) := by decide +kernel
theorem dX6_firstWrong_41 : decode cX6_firstWrong 41 = .ok (.iload_n 1, 1) := by decide +kernel
theorem dX6_firstWrong_42 : decode cX6_firstWrong 42 = .ok (.invokestatic 37, 3) := by decide +kernel
theorem dX6_firstWrong_45 : decode cX6_firstWrong 45 = .ok (.ifCond .ne 5, 3) := by decide +kernel
theorem dX6_firstWrong_48 : decode cX6_firstWrong 48 = .ok (.iload_n 1, 1) := by decide +kernel
theorem dX6_firstWrong_49 : decode cX6_firstWrong 49 = .ok (.ireturn, 1) := by decide +kernel
theorem dX6_firstWrong_50 : decode cX6_firstWrong 50 = .ok (.iinc 1 1, 3) := by decide +kernel
theorem dX6_firstWrong_53 : decode cX6_firstWrong 53 = .ok (.iinc 3 1, 3) := by decide +kernel
theorem dX6_firstWrong_56 : decode cX6_firstWrong 56 = .ok (.goto (-21), 3) := by decide +kernel
theorem dX6_firstWrong_59 : decode cX6_firstWrong 59 = .ok (.aload_n 0, 1) := by decide +kernel
theorem dX6_firstWrong_60 : decode cX6_firstWrong 60 = .ok (.iload_n 1, 1) := by decide +kernel
theorem dX6_firstWrong_61 : decode cX6_firstWrong 61 = .ok (.invokevirtual 33, 3) := by decide +kernel
theorem dX6_firstWrong_64 : decode cX6_firstWrong 64 = .ok (.ifCond .eq 14, 3) := by decide +kernel
theorem dX6_firstWrong_67 : decode cX6_firstWrong 67 = .ok (.aload_n 0, 1) := by decide +kernel
theorem dX6_firstWrong_68 : decode cX6_firstWrong 68 = .ok (.getfield 25, 3) := by decide +kernel
theorem dX6_firstWrong_71 : decode cX6_firstWrong 71 = .ok (.iload_n 1, 1) := by decide +kernel
theorem dX6_firstWrong_72 : decode cX6_firstWrong 72 = .ok (.iaload, 1) := by decide +kernel
theorem dX6_firstWrong_73 : decode cX6_firstWrong 73 = .ok (.bipush 59, 2) := by decide +kernel
theorem dX6_firstWrong_75 : decode cX6_firstWrong 75 = .ok (.if_icmp .eq 5, 3) := by decide +kernel
theorem dX6_firstWrong_78 : decode cX6_firstWrong 78 = .ok (.iload_n 1, 1) := by decide +kernel
theorem dX6_firstWrong_79 : decode cX6_firstWrong 79 = .ok (.ireturn, 1) := by decide +kernel
theorem dX6_firstWrong_80 : decode cX6_firstWrong 80 = .ok (.iinc 1 1, 3) := by decide +kernel
theorem dX6_firstWrong_83 : decode cX6_firstWrong 83 = .ok (.iload_n 1, 1) := by decide +kernel
theorem dX6_firstWrong_84 : decode cX6_firstWrong 84 = .ok (.aload_n 0, 1) := by decide +kernel
theorem dX6_firstWrong_85 : decode cX6_firstWrong 85 = .ok (.getfield 15, 3) := by decide +kernel
theorem dX6_firstWrong_88 : decode cX6_firstWrong 88 = .ok (.if_icmp .lt (-86), 3) := by decide +kernel
theorem dX6_firstWrong_91 : decode cX6_firstWrong 91 = .ok (.iconst (-1), 1) := by decide +kernel
theorem dX6_firstWrong_92 : decode cX6_firstWrong 92 = .ok (.ireturn, 1) := by decide +kernel
theorem dX6_isDigit_0 : decode cX6_isDigit 0 = .ok (.aload_n 0, 1) := by decide +kernel
theorem dX6_isDigit_1 : decode cX6_isDigit 1 = .ok (.iload_n 1, 1) := by decide +kernel
theorem dX6_isDigit_2 : decode cX6_isDigit 2 = .ok (.invokevirtual 33, 3) := by decide +kernel
theorem dX6_isDigit_5 : decode cX6_isDigit 5 = .ok (.ifCond .eq 29, 3) := by decide +kernel
theorem dX6_isDigit_8 : decode cX6_isDigit 8 = .ok (.aload_n 0, 1) := by decide +kernel
theorem dX6_isDigit_9 : decode cX6_isDigit 9 = .ok (.getfield 25, 3) := by decide +kernel
theorem dX6_isDigit_12 : decode cX6_isDigit 12 = .ok (.iload_n 1, 1) := by decide +kernel
theorem dX6_isDigit_13 : decode cX6_isDigit 13 = .ok (.iaload, 1) := by decide +kernel
theorem dX6_isDigit_14 : decode cX6_isDigit 14 = .ok (.bipush 48, 2) := by decide +kernel
theorem dX6_isDigit_16 : decode cX6_isDigit 16 = .ok (.if_icmp .lt 18, 3) := by decide +kernel
theorem dX6_isDigit_19 : decode cX6_isDigit 19 = .ok (.aload_n 0, 1) := by decide +kernel
theorem dX6_isDigit_20 : decode cX6_isDigit 20 = .ok (.getfield 25, 3) := by decide +kernel
theorem dX6_isDigit_23 : decode cX6_isDigit 23 = .ok (.iload_n 1, 1) := by decide +kernel
theorem dX6_isDigit_24 : decode cX6_isDigit 24 = .ok (.iaload, 1) := by decide +kernel
theorem dX6_isDigit_25 : decode cX6_isDigit 25 = .ok (.bipush 57, 2) := by decide +kernel
theorem dX6_isDigit_27 : decode cX6_isDigit 27 = .ok (.if_icmp .gt 7, 3) := by decide +kernel
theorem dX6_isDigit_30 : decode cX6_isDigit 30 = .ok (.iconst 1, 1) := by decide +kernel
theorem dX6_isDigit_31 : decode cX6_isDigit 31 = .ok (.goto 4, 3) := by decide +kernel
theorem dX6_isDigit_34 : decode cX6_isDigit 34 = .ok (.iconst 0, 1) := by decide +kernel
theorem dX6_isDigit_35 : decode cX6_isDigit 35 = .ok (.ireturn, 1) := by decide +kernel
theorem dX6_number_0 : decode cX6_number 0 = .ok (.iconst 0, 1) := by decide +kernel
theorem dX6_number_1 : decode cX6_number 1 = .ok (.istore_n 3, 1) := by decide +kernel
theorem dX6_number_2 : decode cX6_number 2 = .ok (.iconst 0, 1) := by decide +kernel
theorem dX6_number_3 : decode cX6_number 3 = .ok (.istore 4, 2) := by decide +kernel
theorem dX6_number_5 : decode cX6_number 5 = .ok (.iload 4, 2) := by decide +kernel
theorem dX6_number_7 : decode cX6_number 7 = .ok (.iload_n 2, 1) := by decide +kernel
theorem dX6_number_8 : decode cX6_number 8 = .ok (.if_icmp .ge 38, 3) := by decide +kernel
theorem dX6_number_11 : decode cX6_number 11 = .ok (.aload_n 0, 1) := by decide +kernel
theorem dX6_number_12 : decode cX6_number 12 = .ok (.iload_n 1, 1) := by decide +kernel
theorem dX6_number_13 : decode cX6_number 13 = .ok (.iload 4, 2) := by decide +kernel
theorem dX6_number_15 : decode cX6_number 15 = .ok (.iadd, 1) := by decide +kernel
theorem dX6_number_16 : decode cX6_number 16 = .ok (.invokestatic 37, 3) := by decide +kernel
theorem dX6_number_19 : decode cX6_number 19 = .ok (.ifCond .eq 21, 3) := by decide +kernel
theorem dX6_number_22 : decode cX6_number 22 = .ok (.bipush 10, 2) := by decide +kernel
theorem dX6_number_24 : decode cX6_number 24 = .ok (.iload_n 3, 1) := by decide +kernel
theorem dX6_number_25 : decode cX6_number 25 = .ok (.imul, 1) := by decide +kernel
theorem dX6_number_26 : decode cX6_number 26 = .ok (.aload_n 0, 1) := by decide +kernel
theorem dX6_number_27 : decode cX6_number 27 = .ok (.getfield 25, 3) := by decide +kernel
theorem dX6_number_30 : decode cX6_number 30 = .ok (.iload_n 1, 1) := by decide +kernel
theorem dX6_number_31 : decode cX6_number 31 = .ok (.iload 4, 2) := by decide +kernel
theorem dX6_number_33 : decode cX6_number 33 = .ok (.iadd, 1) := by decide +kernel
theorem dX6_number_34 : decode cX6_number 34 = .ok (.iaload, 1) := by decide +kernel
theorem dX6_number_35 : decode cX6_number 35 = .ok (.iadd, 1) := by decide +kernel
theorem dX6_number_36 : decode cX6_number 36 = .ok (.bipush 48, 2) := by decide +kernel
theorem dX6_number_38 : decode cX6_number 38 = .ok (.isub, 1) := by decide +kernel
theorem dX6_number_39 : decode cX6_number 39 = .ok (.istore_n 3, 1) := by decide +kernel
theorem dX6_number_40 : decode cX6_number 40 = .ok (.iinc 4 1, 3) := by decide +kernel
theorem dX6_number_43 : decode cX6_number 43 = .ok (.goto (-38), 3) := by decide +kernel
theorem dX6_number_46 : decode cX6_number 46 = .ok (.iload_n 3, 1) := by decide +kernel
theorem dX6_number_47 : decode cX6_number 47 = .ok (.ireturn, 1) := by decide +kernel
theorem dX6_isDone_0 : decode cX6_isDone 0 = .ok (.aload_n 0, 1) := by decide +kernel
theorem dX6_isDone_1 : decode cX6_isDone 1 = .ok (.iload_n 1, 1) := by decide +kernel
theorem dX6_isDone_2 : decode cX6_isDone 2 = .ok (.iconst 1, 1) := by decide +kernel
theorem dX6_isDone_3 : decode cX6_isDone 3 = .ok (.iadd, 1) := by decide +kernel
theorem dX6_isDone_4 : decode cX6_isDone 4 = .ok (.iconst 1, 1) := by decide +kernel
theorem dX6_isDone_5 : decode cX6_isDone 5 = .ok (.invokestatic 41, 3) := by decide +kernel
theorem dX6_isDone_8 : decode cX6_isDone 8 = .ok (.istore_n 3, 1) := by decide +kernel
theorem dX6_isDone_9 : decode cX6_isDone 9 = .ok (.aload_n 0, 1) := by decide +kernel
theorem dX6_isDone_10 : decode cX6_isDone 10 = .ok (.iload_n 1, 1) := by decide +kernel
theorem dX6_isDone_11 : decode cX6_isDone 11 = .ok (.iconst 2, 1) := by decide +kernel
theorem dX6_isDone_12 : decode cX6_isDone 12 = .ok (.iadd, 1) := by decide +kernel
theorem dX6_isDone_13 : decode cX6_isDone 13 = .ok (.iconst 1, 1) := by decide +kernel
theorem dX6_isDone_14 : decode cX6_isDone 14 = .ok (.invokestatic 41, 3) := by decide +kernel
theorem dX6_isDone_17 : decode cX6_isDone 17 = .ok (.istore 4, 2) := by decide +kernel
theorem dX6_isDone_19 : decode cX6_isDone 19 = .ok (.aload_n 0, 1) := by decide +kernel
theorem dX6_isDone_20 : decode cX6_isDone 20 = .ok (.getfield 25, 3) := by decide +kernel
theorem dX6_isDone_23 : decode cX6_isDone 23 = .ok (.iload_n 1, 1) := by decide +kernel
theorem dX6_isDone_24 : decode cX6_isDone 24 = .ok (.iaload, 1) := by decide +kernel
theorem dX6_isDone_25 : decode cX6_isDone 25 = .ok (.lookupswitch 107 #[(98, 43), (104, 94), (115, 51), (117, 58)], 43) := by decide +kernel
theorem dX6_isDone_68 : decode cX6_isDone 68 = .ok (.aload_n 2, 1) := by decide +kernel
theorem dX6_isDone_69 : decode cX6_isDone 69 = .ok (.iload_n 3, 1) := by decide +kernel
theorem dX6_isDone_70 : decode cX6_isDone 70 = .ok (.iload 4, 2) := by decide +kernel
theorem dX6_isDone_72 : decode cX6_isDone 72 = .ok (.invokestatic 45, 3) := by decide +kernel
theorem dX6_isDone_75 : decode cX6_isDone 75 = .ok (.ireturn, 1) := by decide +kernel
theorem dX6_isDone_76 : decode cX6_isDone 76 = .ok (.aload_n 2, 1) := by decide +kernel
theorem dX6_isDone_77 : decode cX6_isDone 77 = .ok (.iload_n 3, 1) := by decide +kernel
theorem dX6_isDone_78 : decode cX6_isDone 78 = .ok (.putfield 49, 3) := by decide +kernel
theorem dX6_isDone_81 : decode cX6_isDone 81 = .ok (.iconst 1, 1) := by decide +kernel
theorem dX6_isDone_82 : decode cX6_isDone 82 = .ok (.ireturn, 1) := by decide +kernel
theorem dX6_isDone_83 : decode cX6_isDone 83 = .ok (.aload_n 0, 1) := by decide +kernel
theorem dX6_isDone_84 : decode cX6_isDone 84 = .ok (.iload_n 1, 1) := by decide +kernel
theorem dX6_isDone_85 : decode cX6_isDone 85 = .ok (.iconst 3, 1) := by decide +kernel
theorem dX6_isDone_86 : decode cX6_isDone 86 = .ok (.iadd, 1) := by decide +kernel
theorem dX6_isDone_87 : decode cX6_isDone 87 = .ok (.iconst 1, 1) := by decide +kernel
theorem dX6_isDone_88 : decode cX6_isDone 88 = .ok (.invokestatic 41, 3) := by decide +kernel
theorem dX6_isDone_91 : decode cX6_isDone 91 = .ok (.istore 5, 2) := by decide +kernel
theorem dX6_isDone_93 : decode cX6_isDone 93 = .ok (.aload_n 2, 1) := by decide +kernel
theorem dX6_isDone_94 : decode cX6_isDone 94 = .ok (.iload_n 3, 1) := by decide +kernel
theorem dX6_isDone_95 : decode cX6_isDone 95 = .ok (.iload 4, 2) := by decide +kernel
theorem dX6_isDone_97 : decode cX6_isDone 97 = .ok (.iload 5, 2) := by decide +kernel
theorem dX6_isDone_99 : decode cX6_isDone 99 = .ok (.invokevirtual 54, 3) := by decide +kernel
theorem dX6_isDone_102 : decode cX6_isDone 102 = .ok (.ifCond .ne 5, 3) := by decide +kernel
theorem dX6_isDone_105 : decode cX6_isDone 105 = .ok (.iconst 0, 1) := by decide +kernel
theorem dX6_isDone_106 : decode cX6_isDone 106 = .ok (.ireturn, 1) := by decide +kernel
theorem dX6_isDone_107 : decode cX6_isDone 107 = .ok (.aload_n 2, 1) := by decide +kernel
theorem dX6_isDone_108 : decode cX6_isDone 108 = .ok (.iload_n 3, 1) := by decide +kernel
theorem dX6_isDone_109 : decode cX6_isDone 109 = .ok (.iload 4, 2) := by decide +kernel
theorem dX6_isDone_111 : decode cX6_isDone 111 = .ok (.iload 5, 2) := by decide +kernel
theorem dX6_isDone_113 : decode cX6_isDone 113 = .ok (.invokevirtual 58, 3) := by decide +kernel
theorem dX6_isDone_116 : decode cX6_isDone 116 = .ok (.pop, 1) := by decide +kernel
theorem dX6_isDone_117 : decode cX6_isDone 117 = .ok (.iconst 1, 1) := by decide +kernel
theorem dX6_isDone_118 : decode cX6_isDone 118 = .ok (.ireturn, 1) := by decide +kernel
theorem dX6_isDone_119 : decode cX6_isDone 119 = .ok (.aload_n 2, 1) := by decide +kernel
theorem dX6_isDone_120 : decode cX6_isDone 120 = .ok (.aload_n 0, 1) := by decide +kernel
theorem dX6_isDone_121 : decode cX6_isDone 121 = .ok (.iload_n 1, 1) := by decide +kernel
theorem dX6_isDone_122 : decode cX6_isDone 122 = .ok (.iconst 1, 1) := by decide +kernel
theorem dX6_isDone_123 : decode cX6_isDone 123 = .ok (.iadd, 1) := by decide +kernel
theorem dX6_isDone_124 : decode cX6_isDone 124 = .ok (.iconst 2, 1) := by decide +kernel
theorem dX6_isDone_125 : decode cX6_isDone 125 = .ok (.invokestatic 41, 3) := by decide +kernel
theorem dX6_isDone_128 : decode cX6_isDone 128 = .ok (.invokevirtual 61, 3) := by decide +kernel
theorem dX6_isDone_131 : decode cX6_isDone 131 = .ok (.ireturn, 1) := by decide +kernel
theorem dX6_isDone_132 : decode cX6_isDone 132 = .ok (.aload_n 2, 1) := by decide +kernel
theorem dX6_isDone_133 : decode cX6_isDone 133 = .ok (.iload_n 3, 1) := by decide +kernel
theorem dX6_isDone_134 : decode cX6_isDone 134 = .ok (.invokevirtual 64, 3) := by decide +kernel
theorem dX6_isDone_137 : decode cX6_isDone 137 = .ok (.ifCond .eq 29, 3) := by decide +kernel
theorem dX6_isDone_140 : decode cX6_isDone 140 = .ok (.aload_n 2, 1) := by decide +kernel
theorem dX6_isDone_141 : decode cX6_isDone 141 = .ok (.aload_n 0, 1) := by decide +kernel
theorem dX6_isDone_142 : decode cX6_isDone 142 = .ok (.getfield 25, 3) := by decide +kernel
theorem dX6_isDone_145 : decode cX6_isDone 145 = .ok (.iload_n 1, 1) := by decide +kernel
theorem dX6_isDone_146 : decode cX6_isDone 146 = .ok (.iaload, 1) := by decide +kernel
theorem dX6_isDone_147 : decode cX6_isDone 147 = .ok (.iload_n 3, 1) := by decide +kernel
theorem dX6_isDone_148 : decode cX6_isDone 148 = .ok (.aload_n 0, 1) := by decide +kernel
theorem dX6_isDone_149 : decode cX6_isDone 149 = .ok (.iload_n 1, 1) := by decide +kernel
theorem dX6_isDone_150 : decode cX6_isDone 150 = .ok (.iconst 2, 1) := by decide +kernel
theorem dX6_isDone_151 : decode cX6_isDone 151 = .ok (.iadd, 1) := by decide +kernel
theorem dX6_isDone_152 : decode cX6_isDone 152 = .ok (.iconst 3, 1) := by decide +kernel
theorem dX6_isDone_153 : decode cX6_isDone 153 = .ok (.invokestatic 41, 3) := by decide +kernel
theorem dX6_isDone_156 : decode cX6_isDone 156 = .ok (.invokestatic 67, 3) := by decide +kernel
theorem dX6_isDone_159 : decode cX6_isDone 159 = .ok (.ifCond .eq 7, 3) := by decide +kernel
theorem dX6_isDone_162 : decode cX6_isDone 162 = .ok (.iconst 1, 1) := by decide +kernel
theorem dX6_isDone_163 : decode cX6_isDone 163 = .ok (.goto 4, 3) := by decide +kernel
theorem dX6_isDone_166 : decode cX6_isDone 166 = .ok (.iconst 0, 1) := by decide +kernel
theorem dX6_isDone_167 : decode cX6_isDone 167 = .ok (.ireturn, 1) := by decide +kernel
theorem dX6_isHung_0 : decode cX6_isHung 0 = .ok (.iload_n 1, 1) := by decide +kernel
theorem dX6_isHung_1 : decode cX6_isHung 1 = .ok (.bipush 7, 2) := by decide +kernel
theorem dX6_isHung_3 : decode cX6_isHung 3 = .ok (.if_icmp .gt 10, 3) := by decide +kernel
theorem dX6_isHung_6 : decode cX6_isHung 6 = .ok (.aload_n 0, 1) := by decide +kernel
theorem dX6_isHung_7 : decode cX6_isHung 7 = .ok (.invokevirtual 71, 3) := by decide +kernel
theorem dX6_isHung_10 : decode cX6_isHung 10 = .ok (.ifCond .eq 5, 3) := by decide +kernel
theorem dX6_isHung_13 : decode cX6_isHung 13 = .ok (.iconst 0, 1) := by decide +kernel
theorem dX6_isHung_14 : decode cX6_isHung 14 = .ok (.ireturn, 1) := by decide +kernel
theorem dX6_isHung_15 : decode cX6_isHung 15 = .ok (.aload_n 0, 1) := by decide +kernel
theorem dX6_isHung_16 : decode cX6_isHung 16 = .ok (.iload_n 1, 1) := by decide +kernel
theorem dX6_isHung_17 : decode cX6_isHung 17 = .ok (.iload_n 2, 1) := by decide +kernel
theorem dX6_isHung_18 : decode cX6_isHung 18 = .ok (.invokevirtual 75, 3) := by decide +kernel
theorem dX6_isHung_21 : decode cX6_isHung 21 = .ok (.iconst 1, 1) := by decide +kernel
theorem dX6_isHung_22 : decode cX6_isHung 22 = .ok (.ireturn, 1) := by decide +kernel
theorem dX6_isDoneTo_0 : decode cX6_isDoneTo 0 = .ok (.iload_n 1, 1) := by decide +kernel
theorem dX6_isDoneTo_1 : decode cX6_isDoneTo 1 = .ok (.bipush 119, 2) := by decide +kernel
theorem dX6_isDoneTo_3 : decode cX6_isDoneTo 3 = .ok (.if_icmp .ne 12, 3) := by decide +kernel
theorem dX6_isDoneTo_6 : decode cX6_isDoneTo 6 = .ok (.aload_n 0, 1) := by decide +kernel
theorem dX6_isDoneTo_7 : decode cX6_isDoneTo 7 = .ok (.getfield 79, 3) := by decide +kernel
theorem dX6_isDoneTo_10 : decode cX6_isDoneTo 10 = .ok (.iload_n 2, 1) := by decide +kernel
theorem dX6_isDoneTo_11 : decode cX6_isDoneTo 11 = .ok (.iload_n 3, 1) := by decide +kernel
theorem dX6_isDoneTo_12 : decode cX6_isDoneTo 12 = .ok (.iastore, 1) := by decide +kernel
theorem dX6_isDoneTo_13 : decode cX6_isDoneTo 13 = .ok (.iconst 1, 1) := by decide +kernel
theorem dX6_isDoneTo_14 : decode cX6_isDoneTo 14 = .ok (.ireturn, 1) := by decide +kernel
theorem dX6_isDoneTo_15 : decode cX6_isDoneTo 15 = .ok (.iload_n 1, 1) := by decide +kernel
theorem dX6_isDoneTo_16 : decode cX6_isDoneTo 16 = .ok (.bipush 111, 2) := by decide +kernel
theorem dX6_isDoneTo_18 : decode cX6_isDoneTo 18 = .ok (.if_icmp .ne 10, 3) := by decide +kernel
theorem dX6_isDoneTo_21 : decode cX6_isDoneTo 21 = .ok (.aload_n 0, 1) := by decide +kernel
theorem dX6_isDoneTo_22 : decode cX6_isDoneTo 22 = .ok (.iload_n 2, 1) := by decide +kernel
theorem dX6_isDoneTo_23 : decode cX6_isDoneTo 23 = .ok (.invokevirtual 82, 3) := by decide +kernel
theorem dX6_isDoneTo_26 : decode cX6_isDoneTo 26 = .ok (.iconst 1, 1) := by decide +kernel
theorem dX6_isDoneTo_27 : decode cX6_isDoneTo 27 = .ok (.ireturn, 1) := by decide +kernel
theorem dX6_isDoneTo_28 : decode cX6_isDoneTo 28 = .ok (.aload_n 0, 1) := by decide +kernel
theorem dX6_isDoneTo_29 : decode cX6_isDoneTo 29 = .ok (.getfield 49, 3) := by decide +kernel
theorem dX6_isDoneTo_32 : decode cX6_isDoneTo 32 = .ok (.ifCond .gt 5, 3) := by decide +kernel
theorem dX6_isDoneTo_35 : decode cX6_isDoneTo 35 = .ok (.iconst 0, 1) := by decide +kernel
theorem dX6_isDoneTo_36 : decode cX6_isDoneTo 36 = .ok (.ireturn, 1) := by decide +kernel
theorem dX6_isDoneTo_37 : decode cX6_isDoneTo 37 = .ok (.aload_n 0, 1) := by decide +kernel
theorem dX6_isDoneTo_38 : decode cX6_isDoneTo 38 = .ok (.iload_n 2, 1) := by decide +kernel
theorem dX6_isDoneTo_39 : decode cX6_isDoneTo 39 = .ok (.invokevirtual 86, 3) := by decide +kernel
theorem dX6_isDoneTo_42 : decode cX6_isDoneTo 42 = .ok (.pop, 1) := by decide +kernel
theorem dX6_isDoneTo_43 : decode cX6_isDoneTo 43 = .ok (.iconst 1, 1) := by decide +kernel
theorem dX6_isDoneTo_44 : decode cX6_isDoneTo 44 = .ok (.ireturn, 1) := by decide +kernel
theorem dX7_seconds_0 : decode cX7_seconds 0 = .ok (.aload_n 0, 1) := by decide +kernel
theorem dX7_seconds_1 : decode cX7_seconds 1 = .ok (.iload_n 1, 1) := by decide +kernel
theorem dX7_seconds_2 : decode cX7_seconds 2 = .ok (.aload_n 0, 1) := by decide +kernel
theorem dX7_seconds_3 : decode cX7_seconds 3 = .ok (.getfield 9, 3) := by decide +kernel
theorem dX7_seconds_6 : decode cX7_seconds 6 = .ok (.iconst 0, 1) := by decide +kernel
theorem dX7_seconds_7 : decode cX7_seconds 7 = .ok (.invokestatic 15, 3) := by decide +kernel
theorem dX7_seconds_10 : decode cX7_seconds 10 = .ok (.ireturn, 1) := by decide +kernel
theorem dX7_fewest_0 : decode cX7_fewest 0 = .ok (.iload_n 1, 1) := by decide +kernel
theorem dX7_fewest_1 : decode cX7_fewest 1 = .ok (.ifCond .eq 8, 3) := by decide +kernel
theorem dX7_fewest_4 : decode cX7_fewest 4 = .ok (.iload_n 3, 1) := by decide +kernel
theorem dX7_fewest_5 : decode cX7_fewest 5 = .ok (.iconst 5, 1) := by decide +kernel
theorem dX7_fewest_6 : decode cX7_fewest 6 = .ok (.if_icmp .lt 5, 3) := by decide +kernel
theorem dX7_fewest_9 : decode cX7_fewest 9 = .ok (.iconst 0, 1) := by decide +kernel
theorem dX7_fewest_10 : decode cX7_fewest 10 = .ok (.ireturn, 1) := by decide +kernel
theorem dX7_fewest_11 : decode cX7_fewest 11 = .ok (.ldc 21, 2) := by decide +kernel
theorem dX7_fewest_13 : decode cX7_fewest 13 = .ok (.istore 4, 2) := by decide +kernel
theorem dX7_fewest_15 : decode cX7_fewest 15 = .ok (.iconst 0, 1) := by decide +kernel
theorem dX7_fewest_16 : decode cX7_fewest 16 = .ok (.istore 5, 2) := by decide +kernel
theorem dX7_fewest_18 : decode cX7_fewest 18 = .ok (.iload 5, 2) := by decide +kernel
theorem dX7_fewest_20 : decode cX7_fewest 20 = .ok (.aload_n 0, 1) := by decide +kernel
theorem dX7_fewest_21 : decode cX7_fewest 21 = .ok (.getfield 22, 3) := by decide +kernel
theorem dX7_fewest_24 : decode cX7_fewest 24 = .ok (.if_icmp .ge 35, 3) := by decide +kernel
theorem dX7_fewest_27 : decode cX7_fewest 27 = .ok (.iload_n 1, 1) := by decide +kernel
theorem dX7_fewest_28 : decode cX7_fewest 28 = .ok (.iload 5, 2) := by decide +kernel
theorem dX7_fewest_30 : decode cX7_fewest 30 = .ok (.ishr, 1) := by decide +kernel
theorem dX7_fewest_31 : decode cX7_fewest 31 = .ok (.iconst 1, 1) := by decide +kernel
theorem dX7_fewest_32 : decode cX7_fewest 32 = .ok (.iand, 1) := by decide +kernel
theorem dX7_fewest_33 : decode cX7_fewest 33 = .ok (.iconst 1, 1) := by decide +kernel
theorem dX7_fewest_34 : decode cX7_fewest 34 = .ok (.if_icmp .ne 19, 3) := by decide +kernel
theorem dX7_fewest_37 : decode cX7_fewest 37 = .ok (.iload 4, 2) := by decide +kernel
theorem dX7_fewest_39 : decode cX7_fewest 39 = .ok (.aload_n 0, 1) := by decide +kernel
theorem dX7_fewest_40 : decode cX7_fewest 40 = .ok (.iload_n 1, 1) := by decide +kernel
theorem dX7_fewest_41 : decode cX7_fewest 41 = .ok (.iload_n 2, 1) := by decide +kernel
theorem dX7_fewest_42 : decode cX7_fewest 42 = .ok (.iload 5, 2) := by decide +kernel
theorem dX7_fewest_44 : decode cX7_fewest 44 = .ok (.iload_n 3, 1) := by decide +kernel
theorem dX7_fewest_45 : decode cX7_fewest 45 = .ok (.invokestatic 25, 3) := by decide +kernel
theorem dX7_fewest_48 : decode cX7_fewest 48 = .ok (.invokestatic 29, 3) := by decide +kernel
theorem dX7_fewest_51 : decode cX7_fewest 51 = .ok (.istore 4, 2) := by decide +kernel
theorem dX7_fewest_53 : decode cX7_fewest 53 = .ok (.iinc 5 1, 3) := by decide +kernel
theorem dX7_fewest_56 : decode cX7_fewest 56 = .ok (.goto (-38), 3) := by decide +kernel
theorem dX7_fewest_59 : decode cX7_fewest 59 = .ok (.iload 4, 2) := by decide +kernel
theorem dX7_fewest_61 : decode cX7_fewest 61 = .ok (.ireturn, 1) := by decide +kernel
theorem dX7_fewestBy_0 : decode cX7_fewestBy 0 = .ok (.iconst 0, 1) := by decide +kernel
theorem dX7_fewestBy_1 : decode cX7_fewestBy 1 = .ok (.istore 5, 2) := by decide +kernel
theorem dX7_fewestBy_3 : decode cX7_fewestBy 3 = .ok (.iconst 0, 1) := by decide +kernel
theorem dX7_fewestBy_4 : decode cX7_fewestBy 4 = .ok (.istore 6, 2) := by decide +kernel
theorem dX7_fewestBy_6 : decode cX7_fewestBy 6 = .ok (.iload 6, 2) := by decide +kernel
theorem dX7_fewestBy_8 : decode cX7_fewestBy 8 = .ok (.aload_n 0, 1) := by decide +kernel
theorem dX7_fewestBy_9 : decode cX7_fewestBy 9 = .ok (.getfield 22, 3) := by decide +kernel
theorem dX7_fewestBy_12 : decode cX7_fewestBy 12 = .ok (.if_icmp .ge 30, 3) := by decide +kernel
theorem dX7_fewestBy_15 : decode cX7_fewestBy 15 = .ok (.iload_n 1, 1) := by decide +kernel
theorem dX7_fewestBy_16 : decode cX7_fewestBy 16 = .ok (.iload 6, 2) := by decide +kernel
theorem dX7_fewestBy_18 : decode cX7_fewestBy 18 = .ok (.ishr, 1) := by decide +kernel
theorem dX7_fewestBy_19 : decode cX7_fewestBy 19 = .ok (.iconst 1, 1) := by decide +kernel
theorem dX7_fewestBy_20 : decode cX7_fewestBy 20 = .ok (.iand, 1) := by decide +kernel
theorem dX7_fewestBy_21 : decode cX7_fewestBy 21 = .ok (.iconst 1, 1) := by decide +kernel
theorem dX7_fewestBy_22 : decode cX7_fewestBy 22 = .ok (.if_icmp .ne 14, 3) := by decide +kernel
theorem dX7_fewestBy_25 : decode cX7_fewestBy 25 = .ok (.iload 5, 2) := by decide +kernel
theorem dX7_fewestBy_27 : decode cX7_fewestBy 27 = .ok (.aload_n 0, 1) := by decide +kernel
theorem dX7_fewestBy_28 : decode cX7_fewestBy 28 = .ok (.iload 6, 2) := by decide +kernel
theorem dX7_fewestBy_30 : decode cX7_fewestBy 30 = .ok (.invokevirtual 35, 3) := by decide +kernel
theorem dX7_fewestBy_33 : decode cX7_fewestBy 33 = .ok (.iadd, 1) := by decide +kernel
theorem dX7_fewestBy_34 : decode cX7_fewestBy 34 = .ok (.istore 5, 2) := by decide +kernel
theorem dX7_fewestBy_36 : decode cX7_fewestBy 36 = .ok (.iinc 6 1, 3) := by decide +kernel
theorem dX7_fewestBy_39 : decode cX7_fewestBy 39 = .ok (.goto (-33), 3) := by decide +kernel
theorem dX7_fewestBy_42 : decode cX7_fewestBy 42 = .ok (.aload_n 0, 1) := by decide +kernel
theorem dX7_fewestBy_43 : decode cX7_fewestBy 43 = .ok (.iload_n 1, 1) := by decide +kernel
theorem dX7_fewestBy_44 : decode cX7_fewestBy 44 = .ok (.iconst 1, 1) := by decide +kernel
theorem dX7_fewestBy_45 : decode cX7_fewestBy 45 = .ok (.iload_n 3, 1) := by decide +kernel
theorem dX7_fewestBy_46 : decode cX7_fewestBy 46 = .ok (.ishl, 1) := by decide +kernel
theorem dX7_fewestBy_47 : decode cX7_fewestBy 47 = .ok (.iconst (-1), 1) := by decide +kernel
theorem dX7_fewestBy_48 : decode cX7_fewestBy 48 = .ok (.ixor, 1) := by decide +kernel
theorem dX7_fewestBy_49 : decode cX7_fewestBy 49 = .ok (.iand, 1) := by decide +kernel
theorem dX7_fewestBy_50 : decode cX7_fewestBy 50 = .ok (.iload_n 3, 1) := by decide +kernel
theorem dX7_fewestBy_51 : decode cX7_fewestBy 51 = .ok (.iload 4, 2) := by decide +kernel
theorem dX7_fewestBy_53 : decode cX7_fewestBy 53 = .ok (.iconst 1, 1) := by decide +kernel
theorem dX7_fewestBy_54 : decode cX7_fewestBy 54 = .ok (.iadd, 1) := by decide +kernel
theorem dX7_fewestBy_55 : decode cX7_fewestBy 55 = .ok (.invokestatic 15, 3) := by decide +kernel
theorem dX7_fewestBy_58 : decode cX7_fewestBy 58 = .ok (.istore 6, 2) := by decide +kernel
theorem dX7_fewestBy_60 : decode cX7_fewestBy 60 = .ok (.iload_n 2, 1) := by decide +kernel
theorem dX7_fewestBy_61 : decode cX7_fewestBy 61 = .ok (.iload_n 3, 1) := by decide +kernel
theorem dX7_fewestBy_62 : decode cX7_fewestBy 62 = .ok (.invokestatic 39, 3) := by decide +kernel
theorem dX7_fewestBy_65 : decode cX7_fewestBy 65 = .ok (.iload 5, 2) := by decide +kernel
theorem dX7_fewestBy_67 : decode cX7_fewestBy 67 = .ok (.imul, 1) := by decide +kernel
theorem dX7_fewestBy_68 : decode cX7_fewestBy 68 = .ok (.iload 6, 2) := by decide +kernel
theorem dX7_fewestBy_70 : decode cX7_fewestBy 70 = .ok (.iadd, 1) := by decide +kernel
theorem dX7_fewestBy_71 : decode cX7_fewestBy 71 = .ok (.ireturn, 1) := by decide +kernel
theorem dX7_number_0 : decode cX7_number 0 = .ok (.iconst 1, 1) := by decide +kernel
theorem dX7_number_1 : decode cX7_number 1 = .ok (.istore_n 2, 1) := by decide +kernel
theorem dX7_number_2 : decode cX7_number 2 = .ok (.iload_n 1, 1) := by decide +kernel
theorem dX7_number_3 : decode cX7_number 3 = .ok (.istore_n 3, 1) := by decide +kernel
theorem dX7_number_4 : decode cX7_number 4 = .ok (.aload_n 0, 1) := by decide +kernel
theorem dX7_number_5 : decode cX7_number 5 = .ok (.getfield 9, 3) := by decide +kernel
theorem dX7_number_8 : decode cX7_number 8 = .ok (.istore 4, 2) := by decide +kernel
theorem dX7_number_10 : decode cX7_number 10 = .ok (.iconst 0, 1) := by decide +kernel
theorem dX7_number_11 : decode cX7_number 11 = .ok (.istore 5, 2) := by decide +kernel
theorem dX7_number_13 : decode cX7_number 13 = .ok (.iload 5, 2) := by decide +kernel
theorem dX7_number_15 : decode cX7_number 15 = .ok (.iconst 5, 1) := by decide +kernel
theorem dX7_number_16 : decode cX7_number 16 = .ok (.if_icmp .ge 41, 3) := by decide +kernel
theorem dX7_number_19 : decode cX7_number 19 = .ok (.iload_n 3, 1) := by decide +kernel
theorem dX7_number_20 : decode cX7_number 20 = .ok (.ifCond .eq 37, 3) := by decide +kernel
theorem dX7_number_23 : decode cX7_number 23 = .ok (.aload_n 0, 1) := by decide +kernel
theorem dX7_number_24 : decode cX7_number 24 = .ok (.iload_n 3, 1) := by decide +kernel
theorem dX7_number_25 : decode cX7_number 25 = .ok (.iload 4, 2) := by decide +kernel
theorem dX7_number_27 : decode cX7_number 27 = .ok (.iload 5, 2) := by decide +kernel
theorem dX7_number_29 : decode cX7_number 29 = .ok (.invokestatic 42, 3) := by decide +kernel
theorem dX7_number_32 : decode cX7_number 32 = .ok (.istore 4, 2) := by decide +kernel
theorem dX7_number_34 : decode cX7_number 34 = .ok (.iload_n 3, 1) := by decide +kernel
theorem dX7_number_35 : decode cX7_number 35 = .ok (.iconst 1, 1) := by decide +kernel
theorem dX7_number_36 : decode cX7_number 36 = .ok (.iload 4, 2) := by decide +kernel
theorem dX7_number_38 : decode cX7_number 38 = .ok (.ishl, 1) := by decide +kernel
theorem dX7_number_39 : decode cX7_number 39 = .ok (.iconst (-1), 1) := by decide +kernel
theorem dX7_number_40 : decode cX7_number 40 = .ok (.ixor, 1) := by decide +kernel
theorem dX7_number_41 : decode cX7_number 41 = .ok (.iand, 1) := by decide +kernel
theorem dX7_number_42 : decode cX7_number 42 = .ok (.istore_n 3, 1) := by decide +kernel
theorem dX7_number_43 : decode cX7_number 43 = .ok (.bipush 10, 2) := by decide +kernel
theorem dX7_number_45 : decode cX7_number 45 = .ok (.iload_n 2, 1) := by decide +kernel
theorem dX7_number_46 : decode cX7_number 46 = .ok (.imul, 1) := by decide +kernel
theorem dX7_number_47 : decode cX7_number 47 = .ok (.iload 4, 2) := by decide +kernel
theorem dX7_number_49 : decode cX7_number 49 = .ok (.iadd, 1) := by decide +kernel
theorem dX7_number_50 : decode cX7_number 50 = .ok (.istore_n 2, 1) := by decide +kernel
theorem dX7_number_51 : decode cX7_number 51 = .ok (.iinc 5 1, 3) := by decide +kernel
theorem dX7_number_54 : decode cX7_number 54 = .ok (.goto (-41), 3) := by decide +kernel
theorem dX7_number_57 : decode cX7_number 57 = .ok (.iload_n 2, 1) := by decide +kernel
theorem dX7_number_58 : decode cX7_number 58 = .ok (.ireturn, 1) := by decide +kernel
theorem dX7_firstBest_0 : decode cX7_firstBest 0 = .ok (.iconst 0, 1) := by decide +kernel
theorem dX7_firstBest_1 : decode cX7_firstBest 1 = .ok (.istore 4, 2) := by decide +kernel
theorem dX7_firstBest_3 : decode cX7_firstBest 3 = .ok (.ldc 21, 2) := by decide +kernel
theorem dX7_firstBest_5 : decode cX7_firstBest 5 = .ok (.istore 5, 2) := by decide +kernel
theorem dX7_firstBest_7 : decode cX7_firstBest 7 = .ok (.iconst 0, 1) := by decide +kernel
theorem dX7_firstBest_8 : decode cX7_firstBest 8 = .ok (.istore 6, 2) := by decide +kernel
theorem dX7_firstBest_10 : decode cX7_firstBest 10 = .ok (.iload 6, 2) := by decide +kernel
theorem dX7_firstBest_12 : decode cX7_firstBest 12 = .ok (.aload_n 0, 1) := by decide +kernel
theorem dX7_firstBest_13 : decode cX7_firstBest 13 = .ok (.getfield 22, 3) := by decide +kernel
theorem dX7_firstBest_16 : decode cX7_firstBest 16 = .ok (.if_icmp .ge 47, 3) := by decide +kernel
theorem dX7_firstBest_19 : decode cX7_firstBest 19 = .ok (.iload_n 1, 1) := by decide +kernel
theorem dX7_firstBest_20 : decode cX7_firstBest 20 = .ok (.iload 6, 2) := by decide +kernel
theorem dX7_firstBest_22 : decode cX7_firstBest 22 = .ok (.ishr, 1) := by decide +kernel
theorem dX7_firstBest_23 : decode cX7_firstBest 23 = .ok (.iconst 1, 1) := by decide +kernel
theorem dX7_firstBest_24 : decode cX7_firstBest 24 = .ok (.iand, 1) := by decide +kernel
theorem dX7_firstBest_25 : decode cX7_firstBest 25 = .ok (.ifCond .ne 6, 3) := by decide +kernel
theorem dX7_firstBest_28 : decode cX7_firstBest 28 = .ok (.goto 29, 3) := by decide +kernel
theorem dX7_firstBest_31 : decode cX7_firstBest 31 = .ok (.aload_n 0, 1) := by decide +kernel
theorem dX7_firstBest_32 : decode cX7_firstBest 32 = .ok (.iload_n 1, 1) := by decide +kernel
theorem dX7_firstBest_33 : decode cX7_firstBest 33 = .ok (.iload_n 2, 1) := by decide +kernel
theorem dX7_firstBest_34 : decode cX7_firstBest 34 = .ok (.iload 6, 2) := by decide +kernel
theorem dX7_firstBest_36 : decode cX7_firstBest 36 = .ok (.iload_n 3, 1) := by decide +kernel
theorem dX7_firstBest_37 : decode cX7_firstBest 37 = .ok (.invokestatic 25, 3) := by decide +kernel
theorem dX7_firstBest_40 : decode cX7_firstBest 40 = .ok (.istore 7, 2) := by decide +kernel
theorem dX7_firstBest_42 : decode cX7_firstBest 42 = .ok (.iload 7, 2) := by decide +kernel
theorem dX7_firstBest_44 : decode cX7_firstBest 44 = .ok (.iload 5, 2) := by decide +kernel
theorem dX7_firstBest_46 : decode cX7_firstBest 46 = .ok (.if_icmp .ge 11, 3) := by decide +kernel
theorem dX7_firstBest_49 : decode cX7_firstBest 49 = .ok (.iload 6, 2) := by decide +kernel
theorem dX7_firstBest_51 : decode cX7_firstBest 51 = .ok (.istore 4, 2) := by decide +kernel
theorem dX7_firstBest_53 : decode cX7_firstBest 53 = .ok (.iload 7, 2) := by decide +kernel
theorem dX7_firstBest_55 : decode cX7_firstBest 55 = .ok (.istore 5, 2) := by decide +kernel
theorem dX7_firstBest_57 : decode cX7_firstBest 57 = .ok (.iinc 6 1, 3) := by decide +kernel
theorem dX7_firstBest_60 : decode cX7_firstBest 60 = .ok (.goto (-50), 3) := by decide +kernel
theorem dX7_firstBest_63 : decode cX7_firstBest 63 = .ok (.iload 4, 2) := by decide +kernel
theorem dX7_firstBest_65 : decode cX7_firstBest 65 = .ok (.ireturn, 1) := by decide +kernel
theorem dX8_areTold_0 : decode cX8_areTold 0 = .ok (.aload_n 0, 1) := by decide +kernel
theorem dX8_areTold_1 : decode cX8_areTold 1 = .ok (.getfield 7, 3) := by decide +kernel
theorem dX8_areTold_4 : decode cX8_areTold 4 = .ok (.iconst 3, 1) := by decide +kernel
theorem dX8_areTold_5 : decode cX8_areTold 5 = .ok (.irem, 1) := by decide +kernel
theorem dX8_areTold_6 : decode cX8_areTold 6 = .ok (.ifCond .eq 5, 3) := by decide +kernel
theorem dX8_areTold_9 : decode cX8_areTold 9 = .ok (.iconst 0, 1) := by decide +kernel
theorem dX8_areTold_10 : decode cX8_areTold 10 = .ok (.ireturn, 1) := by decide +kernel
theorem dX8_areTold_11 : decode cX8_areTold 11 = .ok (.iconst 0, 1) := by decide +kernel
theorem dX8_areTold_12 : decode cX8_areTold 12 = .ok (.istore_n 2, 1) := by decide +kernel
theorem dX8_areTold_13 : decode cX8_areTold 13 = .ok (.iload_n 2, 1) := by decide +kernel
theorem dX8_areTold_14 : decode cX8_areTold 14 = .ok (.iconst 2, 1) := by decide +kernel
theorem dX8_areTold_15 : decode cX8_areTold 15 = .ok (.iadd, 1) := by decide +kernel
theorem dX8_areTold_16 : decode cX8_areTold 16 = .ok (.aload_n 0, 1) := by decide +kernel
theorem dX8_areTold_17 : decode cX8_areTold 17 = .ok (.getfield 7, 3) := by decide +kernel
theorem dX8_areTold_20 : decode cX8_areTold 20 = .ok (.if_icmp .ge 32, 3) := by decide +kernel
theorem dX8_areTold_23 : decode cX8_areTold 23 = .ok (.aload_n 1, 1) := by decide +kernel
theorem dX8_areTold_24 : decode cX8_areTold 24 = .ok (.aload_n 0, 1) := by decide +kernel
theorem dX8_areTold_25 : decode cX8_areTold 25 = .ok (.getfield 13, 3) := by decide +kernel
theorem dX8_areTold_28 : decode cX8_areTold 28 = .ok (.iload_n 2, 1) := by decide +kernel
theorem dX8_areTold_29 : decode cX8_areTold 29 = .ok (.iaload, 1) := by decide +kernel
theorem dX8_areTold_30 : decode cX8_areTold 30 = .ok (.aload_n 0, 1) := by decide +kernel
theorem dX8_areTold_31 : decode cX8_areTold 31 = .ok (.getfield 13, 3) := by decide +kernel
theorem dX8_areTold_34 : decode cX8_areTold 34 = .ok (.iload_n 2, 1) := by decide +kernel
theorem dX8_areTold_35 : decode cX8_areTold 35 = .ok (.iconst 1, 1) := by decide +kernel
theorem dX8_areTold_36 : decode cX8_areTold 36 = .ok (.iadd, 1) := by decide +kernel
theorem dX8_areTold_37 : decode cX8_areTold 37 = .ok (.iaload, 1) := by decide +kernel
theorem dX8_areTold_38 : decode cX8_areTold 38 = .ok (.invokevirtual 17, 3) := by decide +kernel
theorem dX8_areTold_41 : decode cX8_areTold 41 = .ok (.ifCond .ne 5, 3) := by decide +kernel
theorem dX8_areTold_44 : decode cX8_areTold 44 = .ok (.iconst 0, 1) := by decide +kernel
theorem dX8_areTold_45 : decode cX8_areTold 45 = .ok (.ireturn, 1) := by decide +kernel
theorem dX8_areTold_46 : decode cX8_areTold 46 = .ok (.iinc 2 3, 3) := by decide +kernel
theorem dX8_areTold_49 : decode cX8_areTold 49 = .ok (.goto (-36), 3) := by decide +kernel
theorem dX8_areTold_52 : decode cX8_areTold 52 = .ok (.iconst 1, 1) := by decide +kernel
theorem dX8_areTold_53 : decode cX8_areTold 53 = .ok (.ireturn, 1) := by decide +kernel
theorem dX8_ones_0 : decode cX8_ones 0 = .ok (.iconst 0, 1) := by decide +kernel
theorem dX8_ones_1 : decode cX8_ones 1 = .ok (.istore_n 2, 1) := by decide +kernel
theorem dX8_ones_2 : decode cX8_ones 2 = .ok (.iconst 0, 1) := by decide +kernel
theorem dX8_ones_3 : decode cX8_ones 3 = .ok (.istore_n 3, 1) := by decide +kernel
theorem dX8_ones_4 : decode cX8_ones 4 = .ok (.iload_n 3, 1) := by decide +kernel
theorem dX8_ones_5 : decode cX8_ones 5 = .ok (.iload_n 1, 1) := by decide +kernel
theorem dX8_ones_6 : decode cX8_ones 6 = .ok (.if_icmp .ge 24, 3) := by decide +kernel
theorem dX8_ones_9 : decode cX8_ones 9 = .ok (.aload_n 0, 1) := by decide +kernel
theorem dX8_ones_10 : decode cX8_ones 10 = .ok (.iload_n 3, 1) := by decide +kernel
theorem dX8_ones_11 : decode cX8_ones 11 = .ok (.iload_n 3, 1) := by decide +kernel
theorem dX8_ones_12 : decode cX8_ones 12 = .ok (.invokestatic 23, 3) := by decide +kernel
theorem dX8_ones_15 : decode cX8_ones 15 = .ok (.ifCond .eq 9, 3) := by decide +kernel
theorem dX8_ones_18 : decode cX8_ones 18 = .ok (.iload_n 2, 1) := by decide +kernel
theorem dX8_ones_19 : decode cX8_ones 19 = .ok (.iconst 1, 1) := by decide +kernel
theorem dX8_ones_20 : decode cX8_ones 20 = .ok (.iload_n 3, 1) := by decide +kernel
theorem dX8_ones_21 : decode cX8_ones 21 = .ok (.ishl, 1) := by decide +kernel
theorem dX8_ones_22 : decode cX8_ones 22 = .ok (.ior, 1) := by decide +kernel
theorem dX8_ones_23 : decode cX8_ones 23 = .ok (.istore_n 2, 1) := by decide +kernel
theorem dX8_ones_24 : decode cX8_ones 24 = .ok (.iinc 3 1, 3) := by decide +kernel
theorem dX8_ones_27 : decode cX8_ones 27 = .ok (.goto (-23), 3) := by decide +kernel
theorem dX8_ones_30 : decode cX8_ones 30 = .ok (.iload_n 2, 1) := by decide +kernel
theorem dX8_ones_31 : decode cX8_ones 31 = .ok (.ireturn, 1) := by decide +kernel
theorem dX8_twos_0 : decode cX8_twos 0 = .ok (.iconst 0, 1) := by decide +kernel
theorem dX8_twos_1 : decode cX8_twos 1 = .ok (.istore_n 2, 1) := by decide +kernel
theorem dX8_twos_2 : decode cX8_twos 2 = .ok (.iconst 0, 1) := by decide +kernel
theorem dX8_twos_3 : decode cX8_twos 3 = .ok (.istore_n 3, 1) := by decide +kernel
theorem dX8_twos_4 : decode cX8_twos 4 = .ok (.iload_n 3, 1) := by decide +kernel
theorem dX8_twos_5 : decode cX8_twos 5 = .ok (.iload_n 1, 1) := by decide +kernel
theorem dX8_twos_6 : decode cX8_twos 6 = .ok (.if_icmp .ge 39, 3) := by decide +kernel
theorem dX8_twos_9 : decode cX8_twos 9 = .ok (.iload_n 3, 1) := by decide +kernel
theorem dX8_twos_10 : decode cX8_twos 10 = .ok (.iconst 1, 1) := by decide +kernel
theorem dX8_twos_11 : decode cX8_twos 11 = .ok (.iadd, 1) := by decide +kernel
theorem dX8_twos_12 : decode cX8_twos 12 = .ok (.istore 4, 2) := by decide +kernel
theorem dX8_twos_14 : decode cX8_twos 14 = .ok (.iload 4, 2) := by decide +kernel
theorem dX8_twos_16 : decode cX8_twos 16 = .ok (.iload_n 1, 1) := by decide +kernel
theorem dX8_twos_17 : decode cX8_twos 17 = .ok (.if_icmp .ge 22, 3) := by decide +kernel
theorem dX8_twos_20 : decode cX8_twos 20 = .ok (.aload_n 0, 1) := by decide +kernel
theorem dX8_twos_21 : decode cX8_twos 21 = .ok (.iload_n 3, 1) := by decide +kernel
theorem dX8_twos_22 : decode cX8_twos 22 = .ok (.iload 4, 2) := by decide +kernel
theorem dX8_twos_24 : decode cX8_twos 24 = .ok (.invokestatic 23, 3) := by decide +kernel
theorem dX8_twos_27 : decode cX8_twos 27 = .ok (.ifCond .eq 6, 3) := by decide +kernel
theorem dX8_twos_30 : decode cX8_twos 30 = .ok (.iinc 2 1, 3) := by decide +kernel
theorem dX8_twos_33 : decode cX8_twos 33 = .ok (.iinc 4 1, 3) := by decide +kernel
theorem dX8_twos_36 : decode cX8_twos 36 = .ok (.goto (-22), 3) := by decide +kernel
theorem dX8_twos_39 : decode cX8_twos 39 = .ok (.iinc 3 1, 3) := by decide +kernel
theorem dX8_twos_42 : decode cX8_twos 42 = .ok (.goto (-38), 3) := by decide +kernel
theorem dX8_twos_45 : decode cX8_twos 45 = .ok (.iload_n 2, 1) := by decide +kernel
theorem dX8_twos_46 : decode cX8_twos 46 = .ok (.ireturn, 1) := by decide +kernel
theorem dX8_isSo_0 : decode cX8_isSo 0 = .ok (.iconst 0, 1) := by decide +kernel
theorem dX8_isSo_1 : decode cX8_isSo 1 = .ok (.istore_n 3, 1) := by decide +kernel
theorem dX8_isSo_2 : decode cX8_isSo 2 = .ok (.iload_n 3, 1) := by decide +kernel
theorem dX8_isSo_3 : decode cX8_isSo 3 = .ok (.iconst 2, 1) := by decide +kernel
theorem dX8_isSo_4 : decode cX8_isSo 4 = .ok (.iadd, 1) := by decide +kernel
theorem dX8_isSo_5 : decode cX8_isSo 5 = .ok (.aload_n 0, 1) := by decide +kernel
theorem dX8_isSo_6 : decode cX8_isSo 6 = .ok (.getfield 7, 3) := by decide +kernel
theorem dX8_isSo_9 : decode cX8_isSo 9 = .ok (.if_icmp .ge 66, 3) := by decide +kernel
theorem dX8_isSo_12 : decode cX8_isSo 12 = .ok (.aload_n 0, 1) := by decide +kernel
theorem dX8_isSo_13 : decode cX8_isSo 13 = .ok (.getfield 13, 3) := by decide +kernel
theorem dX8_isSo_16 : decode cX8_isSo 16 = .ok (.iload_n 3, 1) := by decide +kernel
theorem dX8_isSo_17 : decode cX8_isSo 17 = .ok (.iconst 2, 1) := by decide +kernel
theorem dX8_isSo_18 : decode cX8_isSo 18 = .ok (.iadd, 1) := by decide +kernel
theorem dX8_isSo_19 : decode cX8_isSo 19 = .ok (.iaload, 1) := by decide +kernel
theorem dX8_isSo_20 : decode cX8_isSo 20 = .ok (.iconst 1, 1) := by decide +kernel
theorem dX8_isSo_21 : decode cX8_isSo 21 = .ok (.if_icmp .ne 7, 3) := by decide +kernel
theorem dX8_isSo_24 : decode cX8_isSo 24 = .ok (.iconst 1, 1) := by decide +kernel
theorem dX8_isSo_25 : decode cX8_isSo 25 = .ok (.goto 4, 3) := by decide +kernel
theorem dX8_isSo_28 : decode cX8_isSo 28 = .ok (.iconst 0, 1) := by decide +kernel
theorem dX8_isSo_29 : decode cX8_isSo 29 = .ok (.istore 4, 2) := by decide +kernel
theorem dX8_isSo_31 : decode cX8_isSo 31 = .ok (.aload_n 0, 1) := by decide +kernel
theorem dX8_isSo_32 : decode cX8_isSo 32 = .ok (.getfield 13, 3) := by decide +kernel
theorem dX8_isSo_35 : decode cX8_isSo 35 = .ok (.iload_n 3, 1) := by decide +kernel
theorem dX8_isSo_36 : decode cX8_isSo 36 = .ok (.iaload, 1) := by decide +kernel
theorem dX8_isSo_37 : decode cX8_isSo 37 = .ok (.iload_n 1, 1) := by decide +kernel
theorem dX8_isSo_38 : decode cX8_isSo 38 = .ok (.if_icmp .gt 19, 3) := by decide +kernel
theorem dX8_isSo_41 : decode cX8_isSo 41 = .ok (.iload_n 2, 1) := by decide +kernel
theorem dX8_isSo_42 : decode cX8_isSo 42 = .ok (.aload_n 0, 1) := by decide +kernel
theorem dX8_isSo_43 : decode cX8_isSo 43 = .ok (.getfield 13, 3) := by decide +kernel
theorem dX8_isSo_46 : decode cX8_isSo 46 = .ok (.iload_n 3, 1) := by decide +kernel
theorem dX8_isSo_47 : decode cX8_isSo 47 = .ok (.iconst 1, 1) := by decide +kernel
theorem dX8_isSo_48 : decode cX8_isSo 48 = .ok (.iadd, 1) := by decide +kernel
theorem dX8_isSo_49 : decode cX8_isSo 49 = .ok (.iaload, 1) := by decide +kernel
theorem dX8_isSo_50 : decode cX8_isSo 50 = .ok (.if_icmp .gt 7, 3) := by decide +kernel
theorem dX8_isSo_53 : decode cX8_isSo 53 = .ok (.iconst 1, 1) := by decide +kernel
theorem dX8_isSo_54 : decode cX8_isSo 54 = .ok (.goto 4, 3) := by decide +kernel
theorem dX8_isSo_57 : decode cX8_isSo 57 = .ok (.iconst 0, 1) := by decide +kernel
theorem dX8_isSo_58 : decode cX8_isSo 58 = .ok (.istore 5, 2) := by decide +kernel
theorem dX8_isSo_60 : decode cX8_isSo 60 = .ok (.iload 4, 2) := by decide +kernel
theorem dX8_isSo_62 : decode cX8_isSo 62 = .ok (.iload 5, 2) := by decide +kernel
theorem dX8_isSo_64 : decode cX8_isSo 64 = .ok (.if_icmp .eq 5, 3) := by decide +kernel
theorem dX8_isSo_67 : decode cX8_isSo 67 = .ok (.iconst 0, 1) := by decide +kernel
theorem dX8_isSo_68 : decode cX8_isSo 68 = .ok (.ireturn, 1) := by decide +kernel
theorem dX8_isSo_69 : decode cX8_isSo 69 = .ok (.iinc 3 3, 3) := by decide +kernel
theorem dX8_isSo_72 : decode cX8_isSo 72 = .ok (.goto (-70), 3) := by decide +kernel
theorem dX8_isSo_75 : decode cX8_isSo 75 = .ok (.iconst 1, 1) := by decide +kernel
theorem dX8_isSo_76 : decode cX8_isSo 76 = .ok (.ireturn, 1) := by decide +kernel
theorem dX9_init_0 : decode cX9_init 0 = .ok (.aload_n 0, 1) := by decide +kernel
theorem dX9_init_1 : decode cX9_init 1 = .ok (.invokespecial 1, 3) := by decide +kernel
theorem dX9_init_4 : decode cX9_init 4 = .ok (.aload_n 0, 1) := by decide +kernel
theorem dX9_init_5 : decode cX9_init 5 = .ok (.new 7, 3) := by decide +kernel
theorem dX9_init_8 : decode cX9_init 8 = .ok (.dup, 1) := by decide +kernel
theorem dX9_init_9 : decode cX9_init 9 = .ok (.invokespecial 9, 3) := by decide +kernel
theorem dX9_init_12 : decode cX9_init 12 = .ok (.putfield 10, 3) := by decide +kernel
theorem dX9_init_15 : decode cX9_init 15 = .ok (.aload_n 0, 1) := by decide +kernel
theorem dX9_init_16 : decode cX9_init 16 = .ok (.new 7, 3) := by decide +kernel
theorem dX9_init_19 : decode cX9_init 19 = .ok (.dup, 1) := by decide +kernel
theorem dX9_init_20 : decode cX9_init 20 = .ok (.invokespecial 9, 3) := by decide +kernel
theorem dX9_init_23 : decode cX9_init 23 = .ok (.putfield 16, 3) := by decide +kernel
theorem dX9_init_26 : decode cX9_init 26 = .ok (.aload_n 0, 1) := by decide +kernel
theorem dX9_init_27 : decode cX9_init 27 = .ok (.new 7, 3) := by decide +kernel
theorem dX9_init_30 : decode cX9_init 30 = .ok (.dup, 1) := by decide +kernel
theorem dX9_init_31 : decode cX9_init 31 = .ok (.invokespecial 9, 3) := by decide +kernel
theorem dX9_init_34 : decode cX9_init 34 = .ok (.putfield 19, 3) := by decide +kernel
theorem dX9_init_37 : decode cX9_init 37 = .ok (.aload_n 0, 1) := by decide +kernel
theorem dX9_init_38 : decode cX9_init 38 = .ok (.bipush 8, 2) := by decide +kernel
theorem dX9_init_40 : decode cX9_init 40 = .ok (.anewarray 22, 3) := by decide +kernel
theorem dX9_init_43 : decode cX9_init 43 = .ok (.putfield 24, 3) := by decide +kernel
theorem dX9_init_46 : decode cX9_init 46 = .ok (.aload_n 0, 1) := by decide +kernel
theorem dX9_init_47 : decode cX9_init 47 = .ok (.new 28, 3) := by decide +kernel
theorem dX9_init_50 : decode cX9_init 50 = .ok (.dup, 1) := by decide +kernel
theorem dX9_init_51 : decode cX9_init 51 = .ok (.invokespecial 30, 3) := by decide +kernel
theorem dX9_init_54 : decode cX9_init 54 = .ok (.putfield 31, 3) := by decide +kernel
theorem dX9_init_57 : decode cX9_init 57 = .ok (.iconst 0, 1) := by decide +kernel
theorem dX9_init_58 : decode cX9_init 58 = .ok (.istore_n 1, 1) := by decide +kernel
theorem dX9_init_59 : decode cX9_init 59 = .ok (.iload_n 1, 1) := by decide +kernel
theorem dX9_init_60 : decode cX9_init 60 = .ok (.bipush 8, 2) := by decide +kernel
theorem dX9_init_62 : decode cX9_init 62 = .ok (.if_icmp .ge 22, 3) := by decide +kernel
theorem dX9_init_65 : decode cX9_init 65 = .ok (.aload_n 0, 1) := by decide +kernel
theorem dX9_init_66 : decode cX9_init 66 = .ok (.getfield 24, 3) := by decide +kernel
theorem dX9_init_69 : decode cX9_init 69 = .ok (.iload_n 1, 1) := by decide +kernel
theorem dX9_init_70 : decode cX9_init 70 = .ok (.new 22, 3) := by decide +kernel
theorem dX9_init_73 : decode cX9_init 73 = .ok (.dup, 1) := by decide +kernel
theorem dX9_init_74 : decode cX9_init 74 = .ok (.invokespecial 35, 3) := by decide +kernel
theorem dX9_init_77 : decode cX9_init 77 = .ok (.aastore, 1) := by decide +kernel
theorem dX9_init_78 : decode cX9_init 78 = .ok (.iinc 1 1, 3) := by decide +kernel
theorem dX9_init_81 : decode cX9_init 81 = .ok (.goto (-22), 3) := by decide +kernel
theorem dX9_init_84 : decode cX9_init 84 = .ok (.return_, 1) := by decide +kernel
theorem dX9_string_0 : decode cX9_string 0 = .ok (.aload_n 0, 1) := by decide +kernel
theorem dX9_string_1 : decode cX9_string 1 = .ok (.iload_n 1, 1) := by decide +kernel
theorem dX9_string_2 : decode cX9_string 2 = .ok (.invokevirtual 36, 3) := by decide +kernel
theorem dX9_string_5 : decode cX9_string 5 = .ok (.istore_n 2, 1) := by decide +kernel
theorem dX9_string_6 : decode cX9_string 6 = .ok (.iload_n 2, 1) := by decide +kernel
theorem dX9_string_7 : decode cX9_string 7 = .ok (.ifCond .eq 5, 3) := by decide +kernel
theorem dX9_string_10 : decode cX9_string 10 = .ok (.iload_n 2, 1) := by decide +kernel
theorem dX9_string_11 : decode cX9_string 11 = .ok (.ireturn, 1) := by decide +kernel
theorem dX9_string_12 : decode cX9_string 12 = .ok (.aload_n 0, 1) := by decide +kernel
theorem dX9_string_13 : decode cX9_string 13 = .ok (.getfield 24, 3) := by decide +kernel
theorem dX9_string_16 : decode cX9_string 16 = .ok (.iload_n 1, 1) := by decide +kernel
theorem dX9_string_17 : decode cX9_string 17 = .ok (.aaload, 1) := by decide +kernel
theorem dX9_string_18 : decode cX9_string 18 = .ok (.getfield 40, 3) := by decide +kernel
theorem dX9_string_21 : decode cX9_string 21 = .ok (.ifCond .eq 6, 3) := by decide +kernel
theorem dX9_string_24 : decode cX9_string 24 = .ok (.bipush (-12), 2) := by decide +kernel
theorem dX9_string_26 : decode cX9_string 26 = .ok (.ireturn, 1) := by decide +kernel
theorem dX9_string_27 : decode cX9_string 27 = .ok (.aload_n 0, 1) := by decide +kernel
theorem dX9_string_28 : decode cX9_string 28 = .ok (.getfield 16, 3) := by decide +kernel
theorem dX9_string_31 : decode cX9_string 31 = .ok (.aload_n 0, 1) := by decide +kernel
theorem dX9_string_32 : decode cX9_string 32 = .ok (.getfield 10, 3) := by decide +kernel
theorem dX9_string_35 : decode cX9_string 35 = .ok (.invokevirtual 44, 3) := by decide +kernel
theorem dX9_string_38 : decode cX9_string 38 = .ok (.aload_n 0, 1) := by decide +kernel
theorem dX9_string_39 : decode cX9_string 39 = .ok (.getfield 24, 3) := by decide +kernel
theorem dX9_string_42 : decode cX9_string 42 = .ok (.iload_n 1, 1) := by decide +kernel
theorem dX9_string_43 : decode cX9_string 43 = .ok (.aaload, 1) := by decide +kernel
theorem dX9_string_44 : decode cX9_string 44 = .ok (.aload_n 0, 1) := by decide +kernel
theorem dX9_string_45 : decode cX9_string 45 = .ok (.getfield 16, 3) := by decide +kernel
theorem dX9_string_48 : decode cX9_string 48 = .ok (.invokestatic 48, 3) := by decide +kernel
theorem dX9_string_51 : decode cX9_string 51 = .ok (.istore_n 3, 1) := by decide +kernel
theorem dX9_string_52 : decode cX9_string 52 = .ok (.iload_n 3, 1) := by decide +kernel
theorem dX9_string_53 : decode cX9_string 53 = .ok (.ifCond .lt 14, 3) := by decide +kernel
theorem dX9_string_56 : decode cX9_string 56 = .ok (.aload_n 0, 1) := by decide +kernel
theorem dX9_string_57 : decode cX9_string 57 = .ok (.getfield 10, 3) := by decide +kernel
theorem dX9_string_60 : decode cX9_string 60 = .ok (.aload_n 0, 1) := by decide +kernel
theorem dX9_string_61 : decode cX9_string 61 = .ok (.getfield 16, 3) := by decide +kernel
theorem dX9_string_64 : decode cX9_string 64 = .ok (.invokevirtual 44, 3) := by decide +kernel
theorem dX9_string_67 : decode cX9_string 67 = .ok (.iload_n 3, 1) := by decide +kernel
theorem dX9_string_68 : decode cX9_string 68 = .ok (.ireturn, 1) := by decide +kernel
theorem dX9_bulb_0 : decode cX9_bulb 0 = .ok (.aload_n 0, 1) := by decide +kernel
theorem dX9_bulb_1 : decode cX9_bulb 1 = .ok (.getfield 10, 3) := by decide +kernel
theorem dX9_bulb_4 : decode cX9_bulb 4 = .ok (.iload_n 1, 1) := by decide +kernel
theorem dX9_bulb_5 : decode cX9_bulb 5 = .ok (.invokevirtual 54, 3) := by decide +kernel
theorem dX9_bulb_8 : decode cX9_bulb 8 = .ok (.ifCond .ne 5, 3) := by decide +kernel
theorem dX9_bulb_11 : decode cX9_bulb 11 = .ok (.iconst (-1), 1) := by decide +kernel
theorem dX9_bulb_12 : decode cX9_bulb 12 = .ok (.ireturn, 1) := by decide +kernel
theorem dX9_bulb_13 : decode cX9_bulb 13 = .ok (.iload_n 2, 1) := by decide +kernel
theorem dX9_bulb_14 : decode cX9_bulb 14 = .ok (.tableswitch 152 0 7 #[46, 56, 66, 76, 88, 100, 109, 131], 46) := by decide +kernel
theorem dX9_bulb_60 : decode cX9_bulb 60 = .ok (.aload_n 0, 1) := by decide +kernel
theorem dX9_bulb_61 : decode cX9_bulb 61 = .ok (.getfield 10, 3) := by decide +kernel
theorem dX9_bulb_64 : decode cX9_bulb 64 = .ok (.getfield 58, 3) := by decide +kernel
theorem dX9_bulb_67 : decode cX9_bulb 67 = .ok (.iload_n 1, 1) := by decide +kernel
theorem dX9_bulb_68 : decode cX9_bulb 68 = .ok (.iaload, 1) := by decide +kernel
theorem dX9_bulb_69 : decode cX9_bulb 69 = .ok (.ireturn, 1) := by decide +kernel
theorem dX9_bulb_70 : decode cX9_bulb 70 = .ok (.aload_n 0, 1) := by decide +kernel
theorem dX9_bulb_71 : decode cX9_bulb 71 = .ok (.getfield 10, 3) := by decide +kernel
