theorem dX7_span_117 : decode cX7_span 117 = .ok (.ifCond .eq 20, 3) := by decide +kernel
theorem dX7_span_120 : decode cX7_span 120 = .ok (.iload 8, 2) := by decide +kernel
theorem dX7_span_122 : decode cX7_span 122 = .ok (.iconst (-1), 1) := by decide +kernel
theorem dX7_span_123 : decode cX7_span 123 = .ok (.if_icmp .eq 9, 3) := by decide +kernel
theorem dX7_span_126 : decode cX7_span 126 = .ok (.iload 4, 2) := by decide +kernel
theorem dX7_span_128 : decode cX7_span 128 = .ok (.iconst 1, 1) := by decide +kernel
theorem dX7_span_129 : decode cX7_span 129 = .ok (.if_icmp .ne 8, 3) := by decide +kernel
theorem dX7_span_132 : decode cX7_span 132 = .ok (.iload 9, 2) := by decide +kernel
theorem dX7_span_134 : decode cX7_span 134 = .ok (.goto 5, 3) := by decide +kernel
theorem dX7_span_137 : decode cX7_span 137 = .ok (.iload 8, 2) := by decide +kernel
theorem dX7_span_139 : decode cX7_span 139 = .ok (.istore 8, 2) := by decide +kernel
theorem dX7_span_141 : decode cX7_span 141 = .ok (.iinc 9 1, 3) := by decide +kernel
theorem dX7_span_144 : decode cX7_span 144 = .ok (.goto (-72), 3) := by decide +kernel
theorem dX7_span_147 : decode cX7_span 147 = .ok (.iload 8, 2) := by decide +kernel
theorem dX7_span_149 : decode cX7_span 149 = .ok (.ireturn, 1) := by decide +kernel
theorem dX7_millionths_0 : decode cX7_millionths 0 = .ok (.lload_n 0, 1) := by decide +kernel
theorem dX7_millionths_1 : decode cX7_millionths 1 = .ok (.lload_n 2, 1) := by decide +kernel
theorem dX7_millionths_2 : decode cX7_millionths 2 = .ok (.ldiv, 1) := by decide +kernel
theorem dX7_millionths_3 : decode cX7_millionths 3 = .ok (.l2i, 1) := by decide +kernel
theorem dX7_millionths_4 : decode cX7_millionths 4 = .ok (.istore 4, 2) := by decide +kernel
theorem dX7_millionths_6 : decode cX7_millionths 6 = .ok (.lload_n 0, 1) := by decide +kernel
theorem dX7_millionths_7 : decode cX7_millionths 7 = .ok (.lload_n 2, 1) := by decide +kernel
theorem dX7_millionths_8 : decode cX7_millionths 8 = .ok (.lrem, 1) := by decide +kernel
theorem dX7_millionths_9 : decode cX7_millionths 9 = .ok (.lstore 5, 2) := by decide +kernel
theorem dX7_millionths_11 : decode cX7_millionths 11 = .ok (.iconst 0, 1) := by decide +kernel
theorem dX7_millionths_12 : decode cX7_millionths 12 = .ok (.istore 7, 2) := by decide +kernel
theorem dX7_millionths_14 : decode cX7_millionths 14 = .ok (.iload 7, 2) := by decide +kernel
theorem dX7_millionths_16 : decode cX7_millionths 16 = .ok (.bipush 6, 2) := by decide +kernel
theorem dX7_millionths_18 : decode cX7_millionths 18 = .ok (.if_icmp .ge 36, 3) := by decide +kernel
theorem dX7_millionths_21 : decode cX7_millionths 21 = .ok (.lload 5, 2) := by decide +kernel
theorem dX7_millionths_23 : decode cX7_millionths 23 = .ok (.ldc2_w 253, 3) := by decide +kernel
theorem dX7_millionths_26 : decode cX7_millionths 26 = .ok (.lmul, 1) := by decide +kernel
theorem dX7_millionths_27 : decode cX7_millionths 27 = .ok (.lstore 5, 2) := by decide +kernel
theorem dX7_millionths_29 : decode cX7_millionths 29 = .ok (.bipush 10, 2) := by decide +kernel
theorem dX7_millionths_31 : decode cX7_millionths 31 = .ok (.iload 4, 2) := by decide +kernel
theorem dX7_millionths_33 : decode cX7_millionths 33 = .ok (.imul, 1) := by decide +kernel
theorem dX7_millionths_34 : decode cX7_millionths 34 = .ok (.lload 5, 2) := by decide +kernel
theorem dX7_millionths_36 : decode cX7_millionths 36 = .ok (.lload_n 2, 1) := by decide +kernel
theorem dX7_millionths_37 : decode cX7_millionths 37 = .ok (.ldiv, 1) := by decide +kernel
theorem dX7_millionths_38 : decode cX7_millionths 38 = .ok (.l2i, 1) := by decide +kernel
theorem dX7_millionths_39 : decode cX7_millionths 39 = .ok (.iadd, 1) := by decide +kernel
theorem dX7_millionths_40 : decode cX7_millionths 40 = .ok (.istore 4, 2) := by decide +kernel
theorem dX7_millionths_42 : decode cX7_millionths 42 = .ok (.lload 5, 2) := by decide +kernel
theorem dX7_millionths_44 : decode cX7_millionths 44 = .ok (.lload_n 2, 1) := by decide +kernel
theorem dX7_millionths_45 : decode cX7_millionths 45 = .ok (.lrem, 1) := by decide +kernel
theorem dX7_millionths_46 : decode cX7_millionths 46 = .ok (.lstore 5, 2) := by decide +kernel
theorem dX7_millionths_48 : decode cX7_millionths 48 = .ok (.iinc 7 1, 3) := by decide +kernel
theorem dX7_millionths_51 : decode cX7_millionths 51 = .ok (.goto (-37), 3) := by decide +kernel
theorem dX7_millionths_54 : decode cX7_millionths 54 = .ok (.iload 4, 2) := by decide +kernel
theorem dX7_millionths_56 : decode cX7_millionths 56 = .ok (.ireturn, 1) := by decide +kernel
theorem dX7_shareOfWays_0 : decode cX7_shareOfWays 0 = .ok (.lconst 0, 1) := by decide +kernel
theorem dX7_shareOfWays_1 : decode cX7_shareOfWays 1 = .ok (.lstore 4, 2) := by decide +kernel
theorem dX7_shareOfWays_3 : decode cX7_shareOfWays 3 = .ok (.iload_n 2, 1) := by decide +kernel
theorem dX7_shareOfWays_4 : decode cX7_shareOfWays 4 = .ok (.istore 6, 2) := by decide +kernel
theorem dX7_shareOfWays_6 : decode cX7_shareOfWays 6 = .ok (.iload 6, 2) := by decide +kernel
theorem dX7_shareOfWays_8 : decode cX7_shareOfWays 8 = .ok (.iload_n 3, 1) := by decide +kernel
theorem dX7_shareOfWays_9 : decode cX7_shareOfWays 9 = .ok (.if_icmp .gt 25, 3) := by decide +kernel
theorem dX7_shareOfWays_12 : decode cX7_shareOfWays 12 = .ok (.lload 4, 2) := by decide +kernel
theorem dX7_shareOfWays_14 : decode cX7_shareOfWays 14 = .ok (.aload_n 0, 1) := by decide +kernel
theorem dX7_shareOfWays_15 : decode cX7_shareOfWays 15 = .ok (.aload_n 0, 1) := by decide +kernel
theorem dX7_shareOfWays_16 : decode cX7_shareOfWays 16 = .ok (.getfield 206, 3) := by decide +kernel
theorem dX7_shareOfWays_19 : decode cX7_shareOfWays 19 = .ok (.iload_n 1, 1) := by decide +kernel
theorem dX7_shareOfWays_20 : decode cX7_shareOfWays 20 = .ok (.iload 6, 2) := by decide +kernel
theorem dX7_shareOfWays_22 : decode cX7_shareOfWays 22 = .ok (.invokevirtual 242, 3) := by decide +kernel
theorem dX7_shareOfWays_25 : decode cX7_shareOfWays 25 = .ok (.ladd, 1) := by decide +kernel
theorem dX7_shareOfWays_26 : decode cX7_shareOfWays 26 = .ok (.lstore 4, 2) := by decide +kernel
theorem dX7_shareOfWays_28 : decode cX7_shareOfWays 28 = .ok (.iinc 6 1, 3) := by decide +kernel
theorem dX7_shareOfWays_31 : decode cX7_shareOfWays 31 = .ok (.goto (-25), 3) := by decide +kernel
theorem dX7_shareOfWays_34 : decode cX7_shareOfWays 34 = .ok (.lload 4, 2) := by decide +kernel
theorem dX7_shareOfWays_36 : decode cX7_shareOfWays 36 = .ok (.aload_n 0, 1) := by decide +kernel
theorem dX7_shareOfWays_37 : decode cX7_shareOfWays 37 = .ok (.getfield 233, 3) := by decide +kernel
theorem dX7_shareOfWays_40 : decode cX7_shareOfWays 40 = .ok (.aload_n 0, 1) := by decide +kernel
theorem dX7_shareOfWays_41 : decode cX7_shareOfWays 41 = .ok (.getfield 206, 3) := by decide +kernel
theorem dX7_shareOfWays_44 : decode cX7_shareOfWays 44 = .ok (.invokestatic 229, 3) := by decide +kernel
theorem dX7_shareOfWays_47 : decode cX7_shareOfWays 47 = .ok (.invokestatic 255, 3) := by decide +kernel
theorem dX7_shareOfWays_50 : decode cX7_shareOfWays 50 = .ok (.ireturn, 1) := by decide +kernel
theorem dX7_atLeast_0 : decode cX7_atLeast 0 = .ok (.aload_n 0, 1) := by decide +kernel
theorem dX7_atLeast_1 : decode cX7_atLeast 1 = .ok (.iload_n 1, 1) := by decide +kernel
theorem dX7_atLeast_2 : decode cX7_atLeast 2 = .ok (.iload_n 2, 1) := by decide +kernel
theorem dX7_atLeast_3 : decode cX7_atLeast 3 = .ok (.iload_n 3, 1) := by decide +kernel
theorem dX7_atLeast_4 : decode cX7_atLeast 4 = .ok (.invokevirtual 239, 3) := by decide +kernel
theorem dX7_atLeast_7 : decode cX7_atLeast 7 = .ok (.istore 4, 2) := by decide +kernel
theorem dX7_atLeast_9 : decode cX7_atLeast 9 = .ok (.iload 4, 2) := by decide +kernel
theorem dX7_atLeast_11 : decode cX7_atLeast 11 = .ok (.ifCond .eq 8, 3) := by decide +kernel
theorem dX7_atLeast_14 : decode cX7_atLeast 14 = .ok (.iload 4, 2) := by decide +kernel
theorem dX7_atLeast_16 : decode cX7_atLeast 16 = .ok (.goto 16, 3) := by decide +kernel
theorem dX7_atLeast_19 : decode cX7_atLeast 19 = .ok (.aload_n 0, 1) := by decide +kernel
theorem dX7_atLeast_20 : decode cX7_atLeast 20 = .ok (.iload_n 3, 1) := by decide +kernel
theorem dX7_atLeast_21 : decode cX7_atLeast 21 = .ok (.aload_n 0, 1) := by decide +kernel
theorem dX7_atLeast_22 : decode cX7_atLeast 22 = .ok (.getfield 209, 3) := by decide +kernel
theorem dX7_atLeast_25 : decode cX7_atLeast 25 = .ok (.aload_n 0, 1) := by decide +kernel
theorem dX7_atLeast_26 : decode cX7_atLeast 26 = .ok (.getfield 206, 3) := by decide +kernel
theorem dX7_atLeast_29 : decode cX7_atLeast 29 = .ok (.invokevirtual 259, 3) := by decide +kernel
theorem dX7_atLeast_32 : decode cX7_atLeast 32 = .ok (.ireturn, 1) := by decide +kernel
theorem dX7_gives_0 : decode cX7_gives 0 = .ok (.iload_n 2, 1) := by decide +kernel
theorem dX7_gives_1 : decode cX7_gives 1 = .ok (.iconst 1, 1) := by decide +kernel
theorem dX7_gives_2 : decode cX7_gives 2 = .ok (.if_icmp .ne 12, 3) := by decide +kernel
theorem dX7_gives_5 : decode cX7_gives 5 = .ok (.aload_n 0, 1) := by decide +kernel
theorem dX7_gives_6 : decode cX7_gives 6 = .ok (.iload_n 1, 1) := by decide +kernel
theorem dX7_gives_7 : decode cX7_gives 7 = .ok (.iconst 1, 1) := by decide +kernel
theorem dX7_gives_8 : decode cX7_gives 8 = .ok (.invokevirtual 153, 3) := by decide +kernel
theorem dX7_gives_11 : decode cX7_gives 11 = .ok (.goto 15, 3) := by decide +kernel
theorem dX7_gives_14 : decode cX7_gives 14 = .ok (.aload_n 0, 1) := by decide +kernel
theorem dX7_gives_15 : decode cX7_gives 15 = .ok (.iload_n 1, 1) := by decide +kernel
theorem dX7_gives_16 : decode cX7_gives 16 = .ok (.invokevirtual 161, 3) := by decide +kernel
theorem dX7_gives_19 : decode cX7_gives 19 = .ok (.aload_n 0, 1) := by decide +kernel
theorem dX7_gives_20 : decode cX7_gives 20 = .ok (.iload_n 1, 1) := by decide +kernel
theorem dX7_gives_21 : decode cX7_gives 21 = .ok (.iconst 1, 1) := by decide +kernel
theorem dX7_gives_22 : decode cX7_gives 22 = .ok (.invokevirtual 153, 3) := by decide +kernel
theorem dX7_gives_25 : decode cX7_gives 25 = .ok (.lsub, 1) := by decide +kernel
theorem dX7_gives_26 : decode cX7_gives 26 = .ok (.lstore_n 3, 1) := by decide +kernel
theorem dX7_gives_27 : decode cX7_gives 27 = .ok (.iload_n 2, 1) := by decide +kernel
theorem dX7_gives_28 : decode cX7_gives 28 = .ok (.iconst 1, 1) := by decide +kernel
theorem dX7_gives_29 : decode cX7_gives 29 = .ok (.if_icmp .ne 12, 3) := by decide +kernel
theorem dX7_gives_32 : decode cX7_gives 32 = .ok (.aload_n 0, 1) := by decide +kernel
theorem dX7_gives_33 : decode cX7_gives 33 = .ok (.iload_n 1, 1) := by decide +kernel
theorem dX7_gives_34 : decode cX7_gives 34 = .ok (.iconst 0, 1) := by decide +kernel
theorem dX7_gives_35 : decode cX7_gives 35 = .ok (.invokevirtual 153, 3) := by decide +kernel
theorem dX7_gives_38 : decode cX7_gives 38 = .ok (.goto 15, 3) := by decide +kernel
theorem dX7_gives_41 : decode cX7_gives 41 = .ok (.aload_n 0, 1) := by decide +kernel
theorem dX7_gives_42 : decode cX7_gives 42 = .ok (.iload_n 1, 1) := by decide +kernel
theorem dX7_gives_43 : decode cX7_gives 43 = .ok (.invokevirtual 161, 3) := by decide +kernel
theorem dX7_gives_46 : decode cX7_gives 46 = .ok (.aload_n 0, 1) := by decide +kernel
theorem dX7_gives_47 : decode cX7_gives 47 = .ok (.iload_n 1, 1) := by decide +kernel
theorem dX7_gives_48 : decode cX7_gives 48 = .ok (.iconst 0, 1) := by decide +kernel
theorem dX7_gives_49 : decode cX7_gives 49 = .ok (.invokevirtual 153, 3) := by decide +kernel
theorem dX7_gives_52 : decode cX7_gives 52 = .ok (.lsub, 1) := by decide +kernel
theorem dX7_gives_53 : decode cX7_gives 53 = .ok (.lstore 5, 2) := by decide +kernel
theorem dX7_gives_55 : decode cX7_gives 55 = .ok (.lload 5, 2) := by decide +kernel
theorem dX7_gives_57 : decode cX7_gives 57 = .ok (.lconst 0, 1) := by decide +kernel
theorem dX7_gives_58 : decode cX7_gives 58 = .ok (.lcmp, 1) := by decide +kernel
theorem dX7_gives_59 : decode cX7_gives 59 = .ok (.ifCond .ne 5, 3) := by decide +kernel
theorem dX7_gives_62 : decode cX7_gives 62 = .ok (.iconst 0, 1) := by decide +kernel
theorem dX7_gives_63 : decode cX7_gives 63 = .ok (.ireturn, 1) := by decide +kernel
theorem dX7_gives_64 : decode cX7_gives 64 = .ok (.aload_n 0, 1) := by decide +kernel
theorem dX7_gives_65 : decode cX7_gives 65 = .ok (.lload_n 3, 1) := by decide +kernel
theorem dX7_gives_66 : decode cX7_gives 66 = .ok (.lload 5, 2) := by decide +kernel
theorem dX7_gives_68 : decode cX7_gives 68 = .ok (.invokevirtual 164, 3) := by decide +kernel
theorem dX7_gives_71 : decode cX7_gives 71 = .ok (.iconst 1, 1) := by decide +kernel
theorem dX7_gives_72 : decode cX7_gives 72 = .ok (.ireturn, 1) := by decide +kernel
theorem dX7_away_0 : decode cX7_away 0 = .ok (.iload_n 1, 1) := by decide +kernel
theorem dX7_away_1 : decode cX7_away 1 = .ok (.invokestatic 110, 3) := by decide +kernel
theorem dX7_away_4 : decode cX7_away 4 = .ok (.ifCond .eq 21, 3) := by decide +kernel
theorem dX7_away_7 : decode cX7_away 7 = .ok (.iload_n 2, 1) := by decide +kernel
theorem dX7_away_8 : decode cX7_away 8 = .ok (.iconst 0, 1) := by decide +kernel
theorem dX7_away_9 : decode cX7_away 9 = .ok (.iconst 1, 1) := by decide +kernel
theorem dX7_away_10 : decode cX7_away 10 = .ok (.invokestatic 106, 3) := by decide +kernel
theorem dX7_away_13 : decode cX7_away 13 = .ok (.ifCond .eq 12, 3) := by decide +kernel
theorem dX7_away_16 : decode cX7_away 16 = .ok (.iload_n 3, 1) := by decide +kernel
theorem dX7_away_17 : decode cX7_away 17 = .ok (.iconst 0, 1) := by decide +kernel
theorem dX7_away_18 : decode cX7_away 18 = .ok (.iconst 1, 1) := by decide +kernel
theorem dX7_away_19 : decode cX7_away 19 = .ok (.invokestatic 106, 3) := by decide +kernel
theorem dX7_away_22 : decode cX7_away 22 = .ok (.ifCond .ne 9, 3) := by decide +kernel
theorem dX7_away_25 : decode cX7_away 25 = .ok (.bipush (-2), 2) := by decide +kernel
theorem dX7_away_27 : decode cX7_away 27 = .ok (.invokestatic 157, 3) := by decide +kernel
theorem dX7_away_30 : decode cX7_away 30 = .ok (.lreturn, 1) := by decide +kernel
theorem dX7_away_31 : decode cX7_away 31 = .ok (.aload_n 0, 1) := by decide +kernel
theorem dX7_away_32 : decode cX7_away 32 = .ok (.iload_n 1, 1) := by decide +kernel
theorem dX7_away_33 : decode cX7_away 33 = .ok (.invokevirtual 147, 3) := by decide +kernel
theorem dX7_away_36 : decode cX7_away 36 = .ok (.iconst (-1), 1) := by decide +kernel
theorem dX7_away_37 : decode cX7_away 37 = .ok (.if_icmp .ne 20, 3) := by decide +kernel
theorem dX7_away_40 : decode cX7_away 40 = .ok (.aload_n 0, 1) := by decide +kernel
theorem dX7_away_41 : decode cX7_away 41 = .ok (.iload_n 1, 1) := by decide +kernel
theorem dX7_away_42 : decode cX7_away 42 = .ok (.iload_n 2, 1) := by decide +kernel
theorem dX7_away_43 : decode cX7_away 43 = .ok (.invokevirtual 262, 3) := by decide +kernel
theorem dX7_away_46 : decode cX7_away 46 = .ok (.ifCond .eq 11, 3) := by decide +kernel
theorem dX7_away_49 : decode cX7_away 49 = .ok (.aload_n 0, 1) := by decide +kernel
theorem dX7_away_50 : decode cX7_away 50 = .ok (.iload_n 3, 1) := by decide +kernel
theorem dX7_away_51 : decode cX7_away 51 = .ok (.invokevirtual 168, 3) := by decide +kernel
theorem dX7_away_54 : decode cX7_away 54 = .ok (.goto 8, 3) := by decide +kernel
theorem dX7_away_57 : decode cX7_away 57 = .ok (.bipush (-3), 2) := by decide +kernel
theorem dX7_away_59 : decode cX7_away 59 = .ok (.invokestatic 157, 3) := by decide +kernel
theorem dX7_away_62 : decode cX7_away 62 = .ok (.lreturn, 1) := by decide +kernel
theorem dX7_givenOf_0 : decode cX7_givenOf 0 = .ok (.iconst 0, 1) := by decide +kernel
theorem dX7_givenOf_1 : decode cX7_givenOf 1 = .ok (.istore_n 2, 1) := by decide +kernel
theorem dX7_givenOf_2 : decode cX7_givenOf 2 = .ok (.iconst 0, 1) := by decide +kernel
theorem dX7_givenOf_3 : decode cX7_givenOf 3 = .ok (.istore_n 3, 1) := by decide +kernel
theorem dX7_givenOf_4 : decode cX7_givenOf 4 = .ok (.aload_n 0, 1) := by decide +kernel
theorem dX7_givenOf_5 : decode cX7_givenOf 5 = .ok (.iconst 0, 1) := by decide +kernel
theorem dX7_givenOf_6 : decode cX7_givenOf 6 = .ok (.putfield 265, 3) := by decide +kernel
theorem dX7_givenOf_9 : decode cX7_givenOf 9 = .ok (.lconst 1, 1) := by decide +kernel
theorem dX7_givenOf_10 : decode cX7_givenOf 10 = .ok (.lstore 4, 2) := by decide +kernel
theorem dX7_givenOf_12 : decode cX7_givenOf 12 = .ok (.lconst 1, 1) := by decide +kernel
theorem dX7_givenOf_13 : decode cX7_givenOf 13 = .ok (.lstore 6, 2) := by decide +kernel
theorem dX7_givenOf_15 : decode cX7_givenOf 15 = .ok (.iconst 0, 1) := by decide +kernel
theorem dX7_givenOf_16 : decode cX7_givenOf 16 = .ok (.istore 8, 2) := by decide +kernel
theorem dX7_givenOf_18 : decode cX7_givenOf 18 = .ok (.iload 8, 2) := by decide +kernel
theorem dX7_givenOf_20 : decode cX7_givenOf 20 = .ok (.iconst 4, 1) := by decide +kernel
theorem dX7_givenOf_21 : decode cX7_givenOf 21 = .ok (.if_icmp .ge 91, 3) := by decide +kernel
theorem dX7_givenOf_24 : decode cX7_givenOf 24 = .ok (.iconst 0, 1) := by decide +kernel
theorem dX7_givenOf_25 : decode cX7_givenOf 25 = .ok (.istore 9, 2) := by decide +kernel
theorem dX7_givenOf_27 : decode cX7_givenOf 27 = .ok (.iload 9, 2) := by decide +kernel
theorem dX7_givenOf_29 : decode cX7_givenOf 29 = .ok (.aload_n 0, 1) := by decide +kernel
theorem dX7_givenOf_30 : decode cX7_givenOf 30 = .ok (.getfield 187, 3) := by decide +kernel
theorem dX7_givenOf_33 : decode cX7_givenOf 33 = .ok (.if_icmp .ge 73, 3) := by decide +kernel
theorem dX7_givenOf_36 : decode cX7_givenOf 36 = .ok (.aload_n 0, 1) := by decide +kernel
theorem dX7_givenOf_37 : decode cX7_givenOf 37 = .ok (.getfield 61, 3) := by decide +kernel
theorem dX7_givenOf_40 : decode cX7_givenOf 40 = .ok (.iload 9, 2) := by decide +kernel
theorem dX7_givenOf_42 : decode cX7_givenOf 42 = .ok (.iaload, 1) := by decide +kernel
theorem dX7_givenOf_43 : decode cX7_givenOf 43 = .ok (.iload_n 1, 1) := by decide +kernel
theorem dX7_givenOf_44 : decode cX7_givenOf 44 = .ok (.if_icmp .ne 28, 3) := by decide +kernel
theorem dX7_givenOf_47 : decode cX7_givenOf 47 = .ok (.aload_n 0, 1) := by decide +kernel
theorem dX7_givenOf_48 : decode cX7_givenOf 48 = .ok (.getfield 64, 3) := by decide +kernel
theorem dX7_givenOf_51 : decode cX7_givenOf 51 = .ok (.iload 9, 2) := by decide +kernel
theorem dX7_givenOf_53 : decode cX7_givenOf 53 = .ok (.iaload, 1) := by decide +kernel
theorem dX7_givenOf_54 : decode cX7_givenOf 54 = .ok (.iload 8, 2) := by decide +kernel
theorem dX7_givenOf_56 : decode cX7_givenOf 56 = .ok (.if_icmp .ne 16, 3) := by decide +kernel
theorem dX7_givenOf_59 : decode cX7_givenOf 59 = .ok (.aload_n 0, 1) := by decide +kernel
theorem dX7_givenOf_60 : decode cX7_givenOf 60 = .ok (.iload 9, 2) := by decide +kernel
theorem dX7_givenOf_62 : decode cX7_givenOf 62 = .ok (.invokevirtual 203, 3) := by decide +kernel
theorem dX7_givenOf_65 : decode cX7_givenOf 65 = .ok (.ifCond .eq 7, 3) := by decide +kernel
theorem dX7_givenOf_68 : decode cX7_givenOf 68 = .ok (.iconst 1, 1) := by decide +kernel
theorem dX7_givenOf_69 : decode cX7_givenOf 69 = .ok (.goto 4, 3) := by decide +kernel
theorem dX7_givenOf_72 : decode cX7_givenOf 72 = .ok (.iconst 0, 1) := by decide +kernel
theorem dX7_givenOf_73 : decode cX7_givenOf 73 = .ok (.istore 10, 2) := by decide +kernel
theorem dX7_givenOf_75 : decode cX7_givenOf 75 = .ok (.iload_n 2, 1) := by decide +kernel
theorem dX7_givenOf_76 : decode cX7_givenOf 76 = .ok (.ifCond .ne 18, 3) := by decide +kernel
theorem dX7_givenOf_79 : decode cX7_givenOf 79 = .ok (.iload 10, 2) := by decide +kernel
theorem dX7_givenOf_81 : decode cX7_givenOf 81 = .ok (.ifCond .eq 17, 3) := by decide +kernel
theorem dX7_givenOf_84 : decode cX7_givenOf 84 = .ok (.aload_n 0, 1) := by decide +kernel
theorem dX7_givenOf_85 : decode cX7_givenOf 85 = .ok (.iload 8, 2) := by decide +kernel
theorem dX7_givenOf_87 : decode cX7_givenOf 87 = .ok (.invokevirtual 147, 3) := by decide +kernel
theorem dX7_givenOf_90 : decode cX7_givenOf 90 = .ok (.iconst (-1), 1) := by decide +kernel
theorem dX7_givenOf_91 : decode cX7_givenOf 91 = .ok (.if_icmp .eq 7, 3) := by decide +kernel
theorem dX7_givenOf_94 : decode cX7_givenOf 94 = .ok (.iconst 1, 1) := by decide +kernel
theorem dX7_givenOf_95 : decode cX7_givenOf 95 = .ok (.goto 4, 3) := by decide +kernel
theorem dX7_givenOf_98 : decode cX7_givenOf 98 = .ok (.iconst 0, 1) := by decide +kernel
theorem dX7_givenOf_99 : decode cX7_givenOf 99 = .ok (.istore_n 2, 1) := by decide +kernel
theorem dX7_givenOf_100 : decode cX7_givenOf 100 = .ok (.iinc 9 1, 3) := by decide +kernel
theorem dX7_givenOf_103 : decode cX7_givenOf 103 = .ok (.goto (-76), 3) := by decide +kernel
theorem dX7_givenOf_106 : decode cX7_givenOf 106 = .ok (.iinc 8 1, 3) := by decide +kernel
theorem dX7_givenOf_109 : decode cX7_givenOf 109 = .ok (.goto (-91), 3) := by decide +kernel
theorem dX7_givenOf_112 : decode cX7_givenOf 112 = .ok (.iload_n 2, 1) := by decide +kernel
theorem dX7_givenOf_113 : decode cX7_givenOf 113 = .ok (.ifCond .eq 6, 3) := by decide +kernel
theorem dX7_givenOf_116 : decode cX7_givenOf 116 = .ok (.bipush (-3), 2) := by decide +kernel
theorem dX7_givenOf_118 : decode cX7_givenOf 118 = .ok (.ireturn, 1) := by decide +kernel
theorem dX7_givenOf_119 : decode cX7_givenOf 119 = .ok (.iconst 0, 1) := by decide +kernel
theorem dX7_givenOf_120 : decode cX7_givenOf 120 = .ok (.istore 8, 2) := by decide +kernel
theorem dX7_givenOf_122 : decode cX7_givenOf 122 = .ok (.iload 8, 2) := by decide +kernel
theorem dX7_givenOf_124 : decode cX7_givenOf 124 = .ok (.iconst 4, 1) := by decide +kernel
theorem dX7_givenOf_125 : decode cX7_givenOf 125 = .ok (.if_icmp .ge 17, 3) := by decide +kernel
theorem dX7_givenOf_128 : decode cX7_givenOf 128 = .ok (.aload_n 0, 1) := by decide +kernel
theorem dX7_givenOf_129 : decode cX7_givenOf 129 = .ok (.getfield 76, 3) := by decide +kernel
theorem dX7_givenOf_132 : decode cX7_givenOf 132 = .ok (.iload 8, 2) := by decide +kernel
theorem dX7_givenOf_134 : decode cX7_givenOf 134 = .ok (.iconst 0, 1) := by decide +kernel
theorem dX7_givenOf_135 : decode cX7_givenOf 135 = .ok (.iastore, 1) := by decide +kernel
theorem dX7_givenOf_136 : decode cX7_givenOf 136 = .ok (.iinc 8 1, 3) := by decide +kernel
theorem dX7_givenOf_139 : decode cX7_givenOf 139 = .ok (.goto (-17), 3) := by decide +kernel
theorem dX7_givenOf_142 : decode cX7_givenOf 142 = .ok (.iconst 0, 1) := by decide +kernel
theorem dX7_givenOf_143 : decode cX7_givenOf 143 = .ok (.istore 8, 2) := by decide +kernel
theorem dX7_givenOf_145 : decode cX7_givenOf 145 = .ok (.iload 8, 2) := by decide +kernel
theorem dX7_givenOf_147 : decode cX7_givenOf 147 = .ok (.aload_n 0, 1) := by decide +kernel
theorem dX7_givenOf_148 : decode cX7_givenOf 148 = .ok (.getfield 187, 3) := by decide +kernel
theorem dX7_givenOf_151 : decode cX7_givenOf 151 = .ok (.if_icmp .ge 159, 3) := by decide +kernel
theorem dX7_givenOf_154 : decode cX7_givenOf 154 = .ok (.aload_n 0, 1) := by decide +kernel
theorem dX7_givenOf_155 : decode cX7_givenOf 155 = .ok (.getfield 64, 3) := by decide +kernel
theorem dX7_givenOf_158 : decode cX7_givenOf 158 = .ok (.iload 8, 2) := by decide +kernel
theorem dX7_givenOf_160 : decode cX7_givenOf 160 = .ok (.iaload, 1) := by decide +kernel
theorem dX7_givenOf_161 : decode cX7_givenOf 161 = .ok (.istore 9, 2) := by decide +kernel
theorem dX7_givenOf_163 : decode cX7_givenOf 163 = .ok (.aload_n 0, 1) := by decide +kernel
theorem dX7_givenOf_164 : decode cX7_givenOf 164 = .ok (.getfield 61, 3) := by decide +kernel
theorem dX7_givenOf_167 : decode cX7_givenOf 167 = .ok (.iload 8, 2) := by decide +kernel
theorem dX7_givenOf_169 : decode cX7_givenOf 169 = .ok (.iaload, 1) := by decide +kernel
theorem dX7_givenOf_170 : decode cX7_givenOf 170 = .ok (.iload_n 1, 1) := by decide +kernel
theorem dX7_givenOf_171 : decode cX7_givenOf 171 = .ok (.if_icmp .ne 133, 3) := by decide +kernel
theorem dX7_givenOf_174 : decode cX7_givenOf 174 = .ok (.aload_n 0, 1) := by decide +kernel
theorem dX7_givenOf_175 : decode cX7_givenOf 175 = .ok (.iload 8, 2) := by decide +kernel
theorem dX7_givenOf_177 : decode cX7_givenOf 177 = .ok (.invokevirtual 203, 3) := by decide +kernel
theorem dX7_givenOf_180 : decode cX7_givenOf 180 = .ok (.ifCond .eq 124, 3) := by decide +kernel
theorem dX7_givenOf_183 : decode cX7_givenOf 183 = .ok (.aload_n 0, 1) := by decide +kernel
theorem dX7_givenOf_184 : decode cX7_givenOf 184 = .ok (.getfield 76, 3) := by decide +kernel
theorem dX7_givenOf_187 : decode cX7_givenOf 187 = .ok (.iload 9, 2) := by decide +kernel
theorem dX7_givenOf_189 : decode cX7_givenOf 189 = .ok (.dup2, 1) := by decide +kernel
theorem dX7_givenOf_190 : decode cX7_givenOf 190 = .ok (.iaload, 1) := by decide +kernel
theorem dX7_givenOf_191 : decode cX7_givenOf 191 = .ok (.iconst 1, 1) := by decide +kernel
theorem dX7_givenOf_192 : decode cX7_givenOf 192 = .ok (.iadd, 1) := by decide +kernel
theorem dX7_givenOf_193 : decode cX7_givenOf 193 = .ok (.iastore, 1) := by decide +kernel
theorem dX7_givenOf_194 : decode cX7_givenOf 194 = .ok (.aload_n 0, 1) := by decide +kernel
theorem dX7_givenOf_195 : decode cX7_givenOf 195 = .ok (.getfield 76, 3) := by decide +kernel
theorem dX7_givenOf_198 : decode cX7_givenOf 198 = .ok (.iload 9, 2) := by decide +kernel
theorem dX7_givenOf_200 : decode cX7_givenOf 200 = .ok (.iaload, 1) := by decide +kernel
theorem dX7_givenOf_201 : decode cX7_givenOf 201 = .ok (.iconst 3, 1) := by decide +kernel
theorem dX7_givenOf_202 : decode cX7_givenOf 202 = .ok (.if_icmp .ge 102, 3) := by decide +kernel
theorem dX7_givenOf_205 : decode cX7_givenOf 205 = .ok (.aload_n 0, 1) := by decide +kernel
theorem dX7_givenOf_206 : decode cX7_givenOf 206 = .ok (.iload 9, 2) := by decide +kernel
theorem dX7_givenOf_208 : decode cX7_givenOf 208 = .ok (.aload_n 0, 1) := by decide +kernel
theorem dX7_givenOf_209 : decode cX7_givenOf 209 = .ok (.getfield 67, 3) := by decide +kernel
theorem dX7_givenOf_212 : decode cX7_givenOf 212 = .ok (.iload 8, 2) := by decide +kernel
theorem dX7_givenOf_214 : decode cX7_givenOf 214 = .ok (.iaload, 1) := by decide +kernel
theorem dX7_givenOf_215 : decode cX7_givenOf 215 = .ok (.invokevirtual 262, 3) := by decide +kernel
theorem dX7_givenOf_218 : decode cX7_givenOf 218 = .ok (.istore 10, 2) := by decide +kernel
theorem dX7_givenOf_220 : decode cX7_givenOf 220 = .ok (.aload_n 0, 1) := by decide +kernel
theorem dX7_givenOf_221 : decode cX7_givenOf 221 = .ok (.aload_n 0, 1) := by decide +kernel
theorem dX7_givenOf_222 : decode cX7_givenOf 222 = .ok (.getfield 265, 3) := by decide +kernel
theorem dX7_givenOf_225 : decode cX7_givenOf 225 = .ok (.ifCond .ne 8, 3) := by decide +kernel
theorem dX7_givenOf_228 : decode cX7_givenOf 228 = .ok (.iload 10, 2) := by decide +kernel
theorem dX7_givenOf_230 : decode cX7_givenOf 230 = .ok (.ifCond .ne 7, 3) := by decide +kernel
theorem dX7_givenOf_233 : decode cX7_givenOf 233 = .ok (.iconst 1, 1) := by decide +kernel
theorem dX7_givenOf_234 : decode cX7_givenOf 234 = .ok (.goto 4, 3) := by decide +kernel
theorem dX7_givenOf_237 : decode cX7_givenOf 237 = .ok (.iconst 0, 1) := by decide +kernel
theorem dX7_givenOf_238 : decode cX7_givenOf 238 = .ok (.putfield 265, 3) := by decide +kernel
theorem dX7_givenOf_241 : decode cX7_givenOf 241 = .ok (.iload 10, 2) := by decide +kernel
theorem dX7_givenOf_243 : decode cX7_givenOf 243 = .ok (.ifCond .eq 61, 3) := by decide +kernel
theorem dX7_givenOf_246 : decode cX7_givenOf 246 = .ok (.iload_n 3, 1) := by decide +kernel
theorem dX7_givenOf_247 : decode cX7_givenOf 247 = .ok (.ifCond .ne 57, 3) := by decide +kernel
theorem dX7_givenOf_250 : decode cX7_givenOf 250 = .ok (.aload_n 0, 1) := by decide +kernel
theorem dX7_givenOf_251 : decode cX7_givenOf 251 = .ok (.lload 4, 2) := by decide +kernel
theorem dX7_givenOf_253 : decode cX7_givenOf 253 = .ok (.aload_n 0, 1) := by decide +kernel
theorem dX7_givenOf_254 : decode cX7_givenOf 254 = .ok (.getfield 103, 3) := by decide +kernel
theorem dX7_givenOf_257 : decode cX7_givenOf 257 = .ok (.lmul, 1) := by decide +kernel
theorem dX7_givenOf_258 : decode cX7_givenOf 258 = .ok (.lload 6, 2) := by decide +kernel
theorem dX7_givenOf_260 : decode cX7_givenOf 260 = .ok (.aload_n 0, 1) := by decide +kernel
theorem dX7_givenOf_261 : decode cX7_givenOf 261 = .ok (.getfield 7, 3) := by decide +kernel
theorem dX7_givenOf_264 : decode cX7_givenOf 264 = .ok (.lmul, 1) := by decide +kernel
theorem dX7_givenOf_265 : decode cX7_givenOf 265 = .ok (.invokevirtual 164, 3) := by decide +kernel
theorem dX7_givenOf_268 : decode cX7_givenOf 268 = .ok (.aload_n 0, 1) := by decide +kernel
theorem dX7_givenOf_269 : decode cX7_givenOf 269 = .ok (.getfield 103, 3) := by decide +kernel
theorem dX7_givenOf_272 : decode cX7_givenOf 272 = .ok (.lstore 4, 2) := by decide +kernel
theorem dX7_givenOf_274 : decode cX7_givenOf 274 = .ok (.aload_n 0, 1) := by decide +kernel
theorem dX7_givenOf_275 : decode cX7_givenOf 275 = .ok (.getfield 7, 3) := by decide +kernel
theorem dX7_givenOf_278 : decode cX7_givenOf 278 = .ok (.lstore 6, 2) := by decide +kernel
theorem dX7_givenOf_280 : decode cX7_givenOf 280 = .ok (.lload 4, 2) := by decide +kernel
theorem dX7_givenOf_282 : decode cX7_givenOf 282 = .ok (.ldc2_w 269, 3) := by decide +kernel
theorem dX7_givenOf_285 : decode cX7_givenOf 285 = .ok (.lcmp, 1) := by decide +kernel
theorem dX7_givenOf_286 : decode cX7_givenOf 286 = .ok (.ifCond .gt 12, 3) := by decide +kernel
theorem dX7_givenOf_289 : decode cX7_givenOf 289 = .ok (.lload 6, 2) := by decide +kernel
theorem dX7_givenOf_291 : decode cX7_givenOf 291 = .ok (.ldc2_w 269, 3) := by decide +kernel
theorem dX7_givenOf_294 : decode cX7_givenOf 294 = .ok (.lcmp, 1) := by decide +kernel
theorem dX7_givenOf_295 : decode cX7_givenOf 295 = .ok (.ifCond .le 7, 3) := by decide +kernel
theorem dX7_givenOf_298 : decode cX7_givenOf 298 = .ok (.iconst 1, 1) := by decide +kernel
theorem dX7_givenOf_299 : decode cX7_givenOf 299 = .ok (.goto 4, 3) := by decide +kernel
theorem dX7_givenOf_302 : decode cX7_givenOf 302 = .ok (.iconst 0, 1) := by decide +kernel
theorem dX7_givenOf_303 : decode cX7_givenOf 303 = .ok (.istore_n 3, 1) := by decide +kernel
theorem dX7_givenOf_304 : decode cX7_givenOf 304 = .ok (.iinc 8 1, 3) := by decide +kernel
theorem dX7_givenOf_307 : decode cX7_givenOf 307 = .ok (.goto (-162), 3) := by decide +kernel
theorem dX7_givenOf_310 : decode cX7_givenOf 310 = .ok (.aload_n 0, 1) := by decide +kernel
theorem dX7_givenOf_311 : decode cX7_givenOf 311 = .ok (.getfield 265, 3) := by decide +kernel
theorem dX7_givenOf_314 : decode cX7_givenOf 314 = .ok (.ifCond .eq 6, 3) := by decide +kernel
theorem dX7_givenOf_317 : decode cX7_givenOf 317 = .ok (.bipush (-3), 2) := by decide +kernel
theorem dX7_givenOf_319 : decode cX7_givenOf 319 = .ok (.ireturn, 1) := by decide +kernel
theorem dX7_givenOf_320 : decode cX7_givenOf 320 = .ok (.aload_n 0, 1) := by decide +kernel
theorem dX7_givenOf_321 : decode cX7_givenOf 321 = .ok (.lload 4, 2) := by decide +kernel
theorem dX7_givenOf_323 : decode cX7_givenOf 323 = .ok (.putfield 103, 3) := by decide +kernel
theorem dX7_givenOf_326 : decode cX7_givenOf 326 = .ok (.aload_n 0, 1) := by decide +kernel
theorem dX7_givenOf_327 : decode cX7_givenOf 327 = .ok (.lload 6, 2) := by decide +kernel
theorem dX7_givenOf_329 : decode cX7_givenOf 329 = .ok (.putfield 7, 3) := by decide +kernel
theorem dX7_givenOf_332 : decode cX7_givenOf 332 = .ok (.iload_n 3, 1) := by decide +kernel
theorem dX7_givenOf_333 : decode cX7_givenOf 333 = .ok (.ifCond .eq 8, 3) := by decide +kernel
theorem dX7_givenOf_336 : decode cX7_givenOf 336 = .ok (.bipush (-4), 2) := by decide +kernel
theorem dX7_givenOf_338 : decode cX7_givenOf 338 = .ok (.goto 4, 3) := by decide +kernel
theorem dX7_givenOf_341 : decode cX7_givenOf 341 = .ok (.iconst 0, 1) := by decide +kernel
theorem dX7_givenOf_342 : decode cX7_givenOf 342 = .ok (.ireturn, 1) := by decide +kernel
theorem dX7_givenTold_0 : decode cX7_givenTold 0 = .ok (.aload_n 0, 1) := by decide +kernel
theorem dX7_givenTold_1 : decode cX7_givenTold 1 = .ok (.iload_n 1, 1) := by decide +kernel
theorem dX7_givenTold_2 : decode cX7_givenTold 2 = .ok (.invokevirtual 271, 3) := by decide +kernel
theorem dX7_givenTold_5 : decode cX7_givenTold 5 = .ok (.istore_n 3, 1) := by decide +kernel
theorem dX7_givenTold_6 : decode cX7_givenTold 6 = .ok (.iload_n 3, 1) := by decide +kernel
theorem dX7_givenTold_7 : decode cX7_givenTold 7 = .ok (.ifCond .eq 10, 3) := by decide +kernel
theorem dX7_givenTold_10 : decode cX7_givenTold 10 = .ok (.iload_n 3, 1) := by decide +kernel
theorem dX7_givenTold_11 : decode cX7_givenTold 11 = .ok (.invokestatic 157, 3) := by decide +kernel
theorem dX7_givenTold_14 : decode cX7_givenTold 14 = .ok (.goto 8, 3) := by decide +kernel
theorem dX7_givenTold_17 : decode cX7_givenTold 17 = .ok (.aload_n 0, 1) := by decide +kernel
theorem dX7_givenTold_18 : decode cX7_givenTold 18 = .ok (.iload_n 2, 1) := by decide +kernel
theorem dX7_givenTold_19 : decode cX7_givenTold 19 = .ok (.invokevirtual 168, 3) := by decide +kernel
theorem dX7_givenTold_22 : decode cX7_givenTold 22 = .ok (.lreturn, 1) := by decide +kernel
theorem dX7_given_0 : decode cX7_given 0 = .ok (.iload_n 1, 1) := by decide +kernel
theorem dX7_given_1 : decode cX7_given 1 = .ok (.invokestatic 181, 3) := by decide +kernel
theorem dX7_given_4 : decode cX7_given 4 = .ok (.ifCond .eq 21, 3) := by decide +kernel
theorem dX7_given_7 : decode cX7_given 7 = .ok (.iload_n 2, 1) := by decide +kernel
theorem dX7_given_8 : decode cX7_given 8 = .ok (.iconst 0, 1) := by decide +kernel
theorem dX7_given_9 : decode cX7_given 9 = .ok (.iconst 1, 1) := by decide +kernel
theorem dX7_given_10 : decode cX7_given 10 = .ok (.invokestatic 106, 3) := by decide +kernel
theorem dX7_given_13 : decode cX7_given 13 = .ok (.ifCond .eq 12, 3) := by decide +kernel
theorem dX7_given_16 : decode cX7_given 16 = .ok (.aload_n 0, 1) := by decide +kernel
theorem dX7_given_17 : decode cX7_given 17 = .ok (.iload_n 1, 1) := by decide +kernel
theorem dX7_given_18 : decode cX7_given 18 = .ok (.iload_n 2, 1) := by decide +kernel
theorem dX7_given_19 : decode cX7_given 19 = .ok (.invokevirtual 274, 3) := by decide +kernel
theorem dX7_given_22 : decode cX7_given 22 = .ok (.goto 8, 3) := by decide +kernel
theorem dX7_given_25 : decode cX7_given 25 = .ok (.bipush (-2), 2) := by decide +kernel
theorem dX7_given_27 : decode cX7_given 27 = .ok (.invokestatic 157, 3) := by decide +kernel
theorem dX7_given_30 : decode cX7_given 30 = .ok (.lreturn, 1) := by decide +kernel
theorem dX7_has_0 : decode cX7_has 0 = .ok (.iload_n 1, 1) := by decide +kernel
theorem dX7_has_1 : decode cX7_has 1 = .ok (.invokestatic 181, 3) := by decide +kernel
theorem dX7_has_4 : decode cX7_has 4 = .ok (.ifCond .eq 22, 3) := by decide +kernel
theorem dX7_has_7 : decode cX7_has 7 = .ok (.iload_n 2, 1) := by decide +kernel
theorem dX7_has_8 : decode cX7_has 8 = .ok (.iconst 1, 1) := by decide +kernel
theorem dX7_has_9 : decode cX7_has 9 = .ok (.bipush 99, 2) := by decide +kernel
theorem dX7_has_11 : decode cX7_has 11 = .ok (.invokestatic 106, 3) := by decide +kernel
theorem dX7_has_14 : decode cX7_has 14 = .ok (.ifCond .eq 12, 3) := by decide +kernel
theorem dX7_has_17 : decode cX7_has 17 = .ok (.iload_n 3, 1) := by decide +kernel
theorem dX7_has_18 : decode cX7_has 18 = .ok (.iconst 0, 1) := by decide +kernel
theorem dX7_has_19 : decode cX7_has 19 = .ok (.iconst 1, 1) := by decide +kernel
theorem dX7_has_20 : decode cX7_has 20 = .ok (.invokestatic 106, 3) := by decide +kernel
theorem dX7_has_23 : decode cX7_has 23 = .ok (.ifCond .ne 9, 3) := by decide +kernel
theorem dX7_has_26 : decode cX7_has 26 = .ok (.bipush (-2), 2) := by decide +kernel
theorem dX7_has_28 : decode cX7_has 28 = .ok (.invokestatic 157, 3) := by decide +kernel
theorem dX7_has_31 : decode cX7_has 31 = .ok (.lreturn, 1) := by decide +kernel
theorem dX7_has_32 : decode cX7_has 32 = .ok (.aload_n 0, 1) := by decide +kernel
theorem dX7_has_33 : decode cX7_has 33 = .ok (.iload_n 1, 1) := by decide +kernel
theorem dX7_has_34 : decode cX7_has 34 = .ok (.invokevirtual 271, 3) := by decide +kernel
theorem dX7_has_37 : decode cX7_has 37 = .ok (.istore 4, 2) := by decide +kernel
theorem dX7_has_39 : decode cX7_has 39 = .ok (.iload 4, 2) := by decide +kernel
theorem dX7_has_41 : decode cX7_has 41 = .ok (.bipush (-3), 2) := by decide +kernel
theorem dX7_has_43 : decode cX7_has 43 = .ok (.if_icmp .ne 12, 3) := by decide +kernel
theorem dX7_has_46 : decode cX7_has 46 = .ok (.aload_n 0, 1) := by decide +kernel
theorem dX7_has_47 : decode cX7_has 47 = .ok (.getfield 265, 3) := by decide +kernel
theorem dX7_has_50 : decode cX7_has 50 = .ok (.ifCond .eq 5, 3) := by decide +kernel
theorem dX7_has_53 : decode cX7_has 53 = .ok (.lconst 1, 1) := by decide +kernel
theorem dX7_has_54 : decode cX7_has 54 = .ok (.lreturn, 1) := by decide +kernel
theorem dX7_has_55 : decode cX7_has 55 = .ok (.iload 4, 2) := by decide +kernel
theorem dX7_has_57 : decode cX7_has 57 = .ok (.ifCond .eq 9, 3) := by decide +kernel
theorem dX7_has_60 : decode cX7_has 60 = .ok (.iload 4, 2) := by decide +kernel
theorem dX7_has_62 : decode cX7_has 62 = .ok (.invokestatic 157, 3) := by decide +kernel
theorem dX7_has_65 : decode cX7_has 65 = .ok (.lreturn, 1) := by decide +kernel
theorem dX7_has_66 : decode cX7_has 66 = .ok (.aload_n 0, 1) := by decide +kernel
theorem dX7_has_67 : decode cX7_has 67 = .ok (.iload_n 2, 1) := by decide +kernel
theorem dX7_has_68 : decode cX7_has 68 = .ok (.i2l, 1) := by decide +kernel
theorem dX7_has_69 : decode cX7_has 69 = .ok (.aload_n 0, 1) := by decide +kernel
theorem dX7_has_70 : decode cX7_has 70 = .ok (.getfield 103, 3) := by decide +kernel
theorem dX7_has_73 : decode cX7_has 73 = .ok (.lmul, 1) := by decide +kernel
theorem dX7_has_74 : decode cX7_has 74 = .ok (.iload_n 2, 1) := by decide +kernel
theorem dX7_has_75 : decode cX7_has 75 = .ok (.i2l, 1) := by decide +kernel
theorem dX7_has_76 : decode cX7_has 76 = .ok (.aload_n 0, 1) := by decide +kernel
theorem dX7_has_77 : decode cX7_has 77 = .ok (.getfield 103, 3) := by decide +kernel
theorem dX7_has_80 : decode cX7_has 80 = .ok (.lmul, 1) := by decide +kernel
theorem dX7_has_81 : decode cX7_has 81 = .ok (.ldc2_w 251, 3) := by decide +kernel
theorem dX7_has_84 : decode cX7_has 84 = .ok (.iload_n 2, 1) := by decide +kernel
theorem dX7_has_85 : decode cX7_has 85 = .ok (.i2l, 1) := by decide +kernel
theorem dX7_has_86 : decode cX7_has 86 = .ok (.lsub, 1) := by decide +kernel
theorem dX7_has_87 : decode cX7_has 87 = .ok (.aload_n 0, 1) := by decide +kernel
theorem dX7_has_88 : decode cX7_has 88 = .ok (.getfield 7, 3) := by decide +kernel
theorem dX7_has_91 : decode cX7_has 91 = .ok (.lmul, 1) := by decide +kernel
theorem dX7_has_92 : decode cX7_has 92 = .ok (.ladd, 1) := by decide +kernel
theorem dX7_has_93 : decode cX7_has 93 = .ok (.invokevirtual 164, 3) := by decide +kernel
theorem dX7_has_96 : decode cX7_has 96 = .ok (.aload_n 0, 1) := by decide +kernel
theorem dX7_has_97 : decode cX7_has 97 = .ok (.iload_n 3, 1) := by decide +kernel
theorem dX7_has_98 : decode cX7_has 98 = .ok (.invokevirtual 168, 3) := by decide +kernel
theorem dX7_has_101 : decode cX7_has 101 = .ok (.lreturn, 1) := by decide +kernel
theorem dX7_isExposed_0 : decode cX7_isExposed 0 = .ok (.aload_n 0, 1) := by decide +kernel
theorem dX7_isExposed_1 : decode cX7_isExposed 1 = .ok (.iload_n 1, 1) := by decide +kernel
theorem dX7_isExposed_2 : decode cX7_isExposed 2 = .ok (.iconst 1, 1) := by decide +kernel
theorem dX7_isExposed_3 : decode cX7_isExposed 3 = .ok (.invokevirtual 153, 3) := by decide +kernel
theorem dX7_isExposed_6 : decode cX7_isExposed 6 = .ok (.lstore_n 2, 1) := by decide +kernel
theorem dX7_isExposed_7 : decode cX7_isExposed 7 = .ok (.aload_n 0, 1) := by decide +kernel
theorem dX7_isExposed_8 : decode cX7_isExposed 8 = .ok (.iload_n 1, 1) := by decide +kernel
theorem dX7_isExposed_9 : decode cX7_isExposed 9 = .ok (.iconst 0, 1) := by decide +kernel
theorem dX7_isExposed_10 : decode cX7_isExposed 10 = .ok (.invokevirtual 153, 3) := by decide +kernel
theorem dX7_isExposed_13 : decode cX7_isExposed 13 = .ok (.lstore 4, 2) := by decide +kernel
theorem dX7_isExposed_15 : decode cX7_isExposed 15 = .ok (.lload_n 2, 1) := by decide +kernel
theorem dX7_isExposed_16 : decode cX7_isExposed 16 = .ok (.lconst 0, 1) := by decide +kernel
theorem dX7_isExposed_17 : decode cX7_isExposed 17 = .ok (.lcmp, 1) := by decide +kernel
theorem dX7_isExposed_18 : decode cX7_isExposed 18 = .ok (.ifCond .le 35, 3) := by decide +kernel
theorem dX7_isExposed_21 : decode cX7_isExposed 21 = .ok (.lload 4, 2) := by decide +kernel
theorem dX7_isExposed_23 : decode cX7_isExposed 23 = .ok (.lconst 0, 1) := by decide +kernel
theorem dX7_isExposed_24 : decode cX7_isExposed 24 = .ok (.lcmp, 1) := by decide +kernel
theorem dX7_isExposed_25 : decode cX7_isExposed 25 = .ok (.ifCond .le 28, 3) := by decide +kernel
theorem dX7_isExposed_28 : decode cX7_isExposed 28 = .ok (.lload_n 2, 1) := by decide +kernel
theorem dX7_isExposed_29 : decode cX7_isExposed 29 = .ok (.aload_n 0, 1) := by decide +kernel
theorem dX7_isExposed_30 : decode cX7_isExposed 30 = .ok (.iload_n 1, 1) := by decide +kernel
theorem dX7_isExposed_31 : decode cX7_isExposed 31 = .ok (.invokevirtual 161, 3) := by decide +kernel
theorem dX7_isExposed_34 : decode cX7_isExposed 34 = .ok (.lcmp, 1) := by decide +kernel
theorem dX7_isExposed_35 : decode cX7_isExposed 35 = .ok (.ifCond .ge 18, 3) := by decide +kernel
theorem dX7_isExposed_38 : decode cX7_isExposed 38 = .ok (.lload 4, 2) := by decide +kernel
theorem dX7_isExposed_40 : decode cX7_isExposed 40 = .ok (.aload_n 0, 1) := by decide +kernel
theorem dX7_isExposed_41 : decode cX7_isExposed 41 = .ok (.iload_n 1, 1) := by decide +kernel
theorem dX7_isExposed_42 : decode cX7_isExposed 42 = .ok (.invokevirtual 161, 3) := by decide +kernel
theorem dX7_isExposed_45 : decode cX7_isExposed 45 = .ok (.lcmp, 1) := by decide +kernel
theorem dX7_isExposed_46 : decode cX7_isExposed 46 = .ok (.ifCond .ge 7, 3) := by decide +kernel
theorem dX7_isExposed_49 : decode cX7_isExposed 49 = .ok (.iconst 1, 1) := by decide +kernel
theorem dX7_isExposed_50 : decode cX7_isExposed 50 = .ok (.goto 4, 3) := by decide +kernel
theorem dX7_isExposed_53 : decode cX7_isExposed 53 = .ok (.iconst 0, 1) := by decide +kernel
theorem dX7_isExposed_54 : decode cX7_isExposed 54 = .ok (.ireturn, 1) := by decide +kernel
theorem dX7_exposed_0 : decode cX7_exposed 0 = .ok (.iload_n 1, 1) := by decide +kernel
theorem dX7_exposed_1 : decode cX7_exposed 1 = .ok (.invokestatic 110, 3) := by decide +kernel
theorem dX7_exposed_4 : decode cX7_exposed 4 = .ok (.ifCond .eq 12, 3) := by decide +kernel
theorem dX7_exposed_7 : decode cX7_exposed 7 = .ok (.iload_n 2, 1) := by decide +kernel
theorem dX7_exposed_8 : decode cX7_exposed 8 = .ok (.iconst 0, 1) := by decide +kernel
theorem dX7_exposed_9 : decode cX7_exposed 9 = .ok (.iconst 1, 1) := by decide +kernel
theorem dX7_exposed_10 : decode cX7_exposed 10 = .ok (.invokestatic 106, 3) := by decide +kernel
theorem dX7_exposed_13 : decode cX7_exposed 13 = .ok (.ifCond .ne 9, 3) := by decide +kernel
theorem dX7_exposed_16 : decode cX7_exposed 16 = .ok (.bipush (-2), 2) := by decide +kernel
theorem dX7_exposed_18 : decode cX7_exposed 18 = .ok (.invokestatic 157, 3) := by decide +kernel
theorem dX7_exposed_21 : decode cX7_exposed 21 = .ok (.lreturn, 1) := by decide +kernel
theorem dX7_exposed_22 : decode cX7_exposed 22 = .ok (.aload_n 0, 1) := by decide +kernel
theorem dX7_exposed_23 : decode cX7_exposed 23 = .ok (.iload_n 1, 1) := by decide +kernel
theorem dX7_exposed_24 : decode cX7_exposed 24 = .ok (.invokevirtual 147, 3) := by decide +kernel
theorem dX7_exposed_27 : decode cX7_exposed 27 = .ok (.iconst (-1), 1) := by decide +kernel
theorem dX7_exposed_28 : decode cX7_exposed 28 = .ok (.if_icmp .ne 11, 3) := by decide +kernel
theorem dX7_exposed_31 : decode cX7_exposed 31 = .ok (.aload_n 0, 1) := by decide +kernel
theorem dX7_exposed_32 : decode cX7_exposed 32 = .ok (.iload_n 1, 1) := by decide +kernel
theorem dX7_exposed_33 : decode cX7_exposed 33 = .ok (.invokevirtual 277, 3) := by decide +kernel
theorem dX7_exposed_36 : decode cX7_exposed 36 = .ok (.ifCond .ne 9, 3) := by decide +kernel
theorem dX7_exposed_39 : decode cX7_exposed 39 = .ok (.bipush (-3), 2) := by decide +kernel
theorem dX7_exposed_41 : decode cX7_exposed 41 = .ok (.invokestatic 157, 3) := by decide +kernel
theorem dX7_exposed_44 : decode cX7_exposed 44 = .ok (.lreturn, 1) := by decide +kernel
theorem dX7_exposed_45 : decode cX7_exposed 45 = .ok (.aload_n 0, 1) := by decide +kernel
theorem dX7_exposed_46 : decode cX7_exposed 46 = .ok (.iload_n 1, 1) := by decide +kernel
theorem dX7_exposed_47 : decode cX7_exposed 47 = .ok (.iconst 1, 1) := by decide +kernel
theorem dX7_exposed_48 : decode cX7_exposed 48 = .ok (.invokevirtual 262, 3) := by decide +kernel
theorem dX7_exposed_51 : decode cX7_exposed 51 = .ok (.istore_n 3, 1) := by decide +kernel
theorem dX7_exposed_52 : decode cX7_exposed 52 = .ok (.aload_n 0, 1) := by decide +kernel
theorem dX7_exposed_53 : decode cX7_exposed 53 = .ok (.getfield 103, 3) := by decide +kernel
theorem dX7_exposed_56 : decode cX7_exposed 56 = .ok (.aload_n 0, 1) := by decide +kernel
theorem dX7_exposed_57 : decode cX7_exposed 57 = .ok (.getfield 7, 3) := by decide +kernel
theorem dX7_exposed_60 : decode cX7_exposed 60 = .ok (.lcmp, 1) := by decide +kernel
theorem dX7_exposed_61 : decode cX7_exposed 61 = .ok (.ifCond .le 10, 3) := by decide +kernel
theorem dX7_exposed_64 : decode cX7_exposed 64 = .ok (.aload_n 0, 1) := by decide +kernel
theorem dX7_exposed_65 : decode cX7_exposed 65 = .ok (.getfield 103, 3) := by decide +kernel
theorem dX7_exposed_68 : decode cX7_exposed 68 = .ok (.goto 7, 3) := by decide +kernel
theorem dX7_exposed_71 : decode cX7_exposed 71 = .ok (.aload_n 0, 1) := by decide +kernel
theorem dX7_exposed_72 : decode cX7_exposed 72 = .ok (.getfield 7, 3) := by decide +kernel
theorem dX7_exposed_75 : decode cX7_exposed 75 = .ok (.lstore 4, 2) := by decide +kernel
theorem dX7_exposed_77 : decode cX7_exposed 77 = .ok (.aload_n 0, 1) := by decide +kernel
theorem dX7_exposed_78 : decode cX7_exposed 78 = .ok (.getfield 103, 3) := by decide +kernel
theorem dX7_exposed_81 : decode cX7_exposed 81 = .ok (.aload_n 0, 1) := by decide +kernel
theorem dX7_exposed_82 : decode cX7_exposed 82 = .ok (.getfield 7, 3) := by decide +kernel
theorem dX7_exposed_85 : decode cX7_exposed 85 = .ok (.lcmp, 1) := by decide +kernel
theorem dX7_exposed_86 : decode cX7_exposed 86 = .ok (.ifCond .le 10, 3) := by decide +kernel
theorem dX7_exposed_89 : decode cX7_exposed 89 = .ok (.aload_n 0, 1) := by decide +kernel
theorem dX7_exposed_90 : decode cX7_exposed 90 = .ok (.getfield 7, 3) := by decide +kernel
theorem dX7_exposed_93 : decode cX7_exposed 93 = .ok (.goto 7, 3) := by decide +kernel
theorem dX7_exposed_96 : decode cX7_exposed 96 = .ok (.aload_n 0, 1) := by decide +kernel
theorem dX7_exposed_97 : decode cX7_exposed 97 = .ok (.getfield 103, 3) := by decide +kernel
theorem dX7_exposed_100 : decode cX7_exposed 100 = .ok (.lstore 6, 2) := by decide +kernel
theorem dX7_exposed_102 : decode cX7_exposed 102 = .ok (.aload_n 0, 1) := by decide +kernel
theorem dX7_exposed_103 : decode cX7_exposed 103 = .ok (.iload_n 1, 1) := by decide +kernel
theorem dX7_exposed_104 : decode cX7_exposed 104 = .ok (.iconst 0, 1) := by decide +kernel
theorem dX7_exposed_105 : decode cX7_exposed 105 = .ok (.invokevirtual 262, 3) := by decide +kernel
theorem dX7_exposed_108 : decode cX7_exposed 108 = .ok (.istore_n 3, 1) := by decide +kernel
theorem dX7_exposed_109 : decode cX7_exposed 109 = .ok (.aload_n 0, 1) := by decide +kernel
theorem dX7_exposed_110 : decode cX7_exposed 110 = .ok (.getfield 103, 3) := by decide +kernel
theorem dX7_exposed_113 : decode cX7_exposed 113 = .ok (.aload_n 0, 1) := by decide +kernel
theorem dX7_exposed_114 : decode cX7_exposed 114 = .ok (.getfield 7, 3) := by decide +kernel
theorem dX7_exposed_117 : decode cX7_exposed 117 = .ok (.lcmp, 1) := by decide +kernel
theorem dX7_exposed_118 : decode cX7_exposed 118 = .ok (.ifCond .le 10, 3) := by decide +kernel
theorem dX7_exposed_121 : decode cX7_exposed 121 = .ok (.aload_n 0, 1) := by decide +kernel
theorem dX7_exposed_122 : decode cX7_exposed 122 = .ok (.getfield 103, 3) := by decide +kernel
theorem dX7_exposed_125 : decode cX7_exposed 125 = .ok (.goto 7, 3) := by decide +kernel
theorem dX7_exposed_128 : decode cX7_exposed 128 = .ok (.aload_n 0, 1) := by decide +kernel
theorem dX7_exposed_129 : decode cX7_exposed 129 = .ok (.getfield 7, 3) := by decide +kernel
theorem dX7_exposed_132 : decode cX7_exposed 132 = .ok (.lstore 8, 2) := by decide +kernel
theorem dX7_exposed_134 : decode cX7_exposed 134 = .ok (.aload_n 0, 1) := by decide +kernel
theorem dX7_exposed_135 : decode cX7_exposed 135 = .ok (.getfield 103, 3) := by decide +kernel
theorem dX7_exposed_138 : decode cX7_exposed 138 = .ok (.aload_n 0, 1) := by decide +kernel
theorem dX7_exposed_139 : decode cX7_exposed 139 = .ok (.getfield 7, 3) := by decide +kernel
theorem dX7_exposed_142 : decode cX7_exposed 142 = .ok (.lcmp, 1) := by decide +kernel
theorem dX7_exposed_143 : decode cX7_exposed 143 = .ok (.ifCond .le 10, 3) := by decide +kernel
theorem dX7_exposed_146 : decode cX7_exposed 146 = .ok (.aload_n 0, 1) := by decide +kernel
theorem dX7_exposed_147 : decode cX7_exposed 147 = .ok (.getfield 7, 3) := by decide +kernel
theorem dX7_exposed_150 : decode cX7_exposed 150 = .ok (.goto 7, 3) := by decide +kernel
theorem dX7_exposed_153 : decode cX7_exposed 153 = .ok (.aload_n 0, 1) := by decide +kernel
theorem dX7_exposed_154 : decode cX7_exposed 154 = .ok (.getfield 103, 3) := by decide +kernel
theorem dX7_exposed_157 : decode cX7_exposed 157 = .ok (.lstore 10, 2) := by decide +kernel
theorem dX7_exposed_159 : decode cX7_exposed 159 = .ok (.lload 8, 2) := by decide +kernel
theorem dX7_exposed_161 : decode cX7_exposed 161 = .ok (.lload 6, 2) := by decide +kernel
theorem dX7_exposed_163 : decode cX7_exposed 163 = .ok (.lmul, 1) := by decide +kernel
theorem dX7_exposed_164 : decode cX7_exposed 164 = .ok (.lload 4, 2) := by decide +kernel
theorem dX7_exposed_166 : decode cX7_exposed 166 = .ok (.lload 10, 2) := by decide +kernel
theorem dX7_exposed_168 : decode cX7_exposed 168 = .ok (.lmul, 1) := by decide +kernel
theorem dX7_exposed_169 : decode cX7_exposed 169 = .ok (.lcmp, 1) := by decide +kernel
theorem dX7_exposed_170 : decode cX7_exposed 170 = .ok (.ifCond .le 14, 3) := by decide +kernel
theorem dX7_exposed_173 : decode cX7_exposed 173 = .ok (.aload_n 0, 1) := by decide +kernel
theorem dX7_exposed_174 : decode cX7_exposed 174 = .ok (.lload 8, 2) := by decide +kernel
theorem dX7_exposed_176 : decode cX7_exposed 176 = .ok (.lload 10, 2) := by decide +kernel
theorem dX7_exposed_178 : decode cX7_exposed 178 = .ok (.invokevirtual 164, 3) := by decide +kernel
theorem dX7_exposed_181 : decode cX7_exposed 181 = .ok (.goto 11, 3) := by decide +kernel
theorem dX7_exposed_184 : decode cX7_exposed 184 = .ok (.aload_n 0, 1) := by decide +kernel
theorem dX7_exposed_185 : decode cX7_exposed 185 = .ok (.lload 4, 2) := by decide +kernel
theorem dX7_exposed_187 : decode cX7_exposed 187 = .ok (.lload 6, 2) := by decide +kernel
theorem dX7_exposed_189 : decode cX7_exposed 189 = .ok (.invokevirtual 164, 3) := by decide +kernel
theorem dX7_exposed_192 : decode cX7_exposed 192 = .ok (.aload_n 0, 1) := by decide +kernel
theorem dX7_exposed_193 : decode cX7_exposed 193 = .ok (.iload_n 2, 1) := by decide +kernel
theorem dX7_exposed_194 : decode cX7_exposed 194 = .ok (.invokevirtual 168, 3) := by decide +kernel
theorem dX7_exposed_197 : decode cX7_exposed 197 = .ok (.lreturn, 1) := by decide +kernel
theorem dX7_limit_0 : decode cX7_limit 0 = .ok (.iload_n 1, 1) := by decide +kernel
theorem dX7_limit_1 : decode cX7_limit 1 = .ok (.iconst 1, 1) := by decide +kernel
theorem dX7_limit_2 : decode cX7_limit 2 = .ok (.sipush 1000, 3) := by decide +kernel
theorem dX7_limit_5 : decode cX7_limit 5 = .ok (.invokestatic 106, 3) := by decide +kernel
theorem dX7_limit_8 : decode cX7_limit 8 = .ok (.ifCond .ne 6, 3) := by decide +kernel
theorem dX7_limit_11 : decode cX7_limit 11 = .ok (.bipush (-2), 2) := by decide +kernel
theorem dX7_limit_13 : decode cX7_limit 13 = .ok (.ireturn, 1) := by decide +kernel
theorem dX7_limit_14 : decode cX7_limit 14 = .ok (.aload_n 0, 1) := by decide +kernel
theorem dX7_limit_15 : decode cX7_limit 15 = .ok (.getfield 79, 3) := by decide +kernel
theorem dX7_limit_18 : decode cX7_limit 18 = .ok (.istore_n 2, 1) := by decide +kernel
theorem dX7_limit_19 : decode cX7_limit 19 = .ok (.aload_n 0, 1) := by decide +kernel
theorem dX7_limit_20 : decode cX7_limit 20 = .ok (.iload_n 1, 1) := by decide +kernel
theorem dX7_limit_21 : decode cX7_limit 21 = .ok (.putfield 79, 3) := by decide +kernel
theorem dX7_limit_24 : decode cX7_limit 24 = .ok (.iload_n 2, 1) := by decide +kernel
theorem dX7_limit_25 : decode cX7_limit 25 = .ok (.ireturn, 1) := by decide +kernel
theorem dX7_isWithin_0 : decode cX7_isWithin 0 = .ok (.lload_n 1, 1) := by decide +kernel
theorem dX7_isWithin_1 : decode cX7_isWithin 1 = .ok (.aload_n 0, 1) := by decide +kernel
theorem dX7_isWithin_2 : decode cX7_isWithin 2 = .ok (.getfield 79, 3) := by decide +kernel
theorem dX7_isWithin_5 : decode cX7_isWithin 5 = .ok (.i2l, 1) := by decide +kernel
theorem dX7_isWithin_6 : decode cX7_isWithin 6 = .ok (.lload_n 3, 1) := by decide +kernel
theorem dX7_isWithin_7 : decode cX7_isWithin 7 = .ok (.lmul, 1) := by decide +kernel
theorem dX7_isWithin_8 : decode cX7_isWithin 8 = .ok (.lcmp, 1) := by decide +kernel
theorem dX7_isWithin_9 : decode cX7_isWithin 9 = .ok (.ifCond .gt 19, 3) := by decide +kernel
theorem dX7_isWithin_12 : decode cX7_isWithin 12 = .ok (.lload_n 3, 1) := by decide +kernel
theorem dX7_isWithin_13 : decode cX7_isWithin 13 = .ok (.aload_n 0, 1) := by decide +kernel
theorem dX7_isWithin_14 : decode cX7_isWithin 14 = .ok (.getfield 79, 3) := by decide +kernel
theorem dX7_isWithin_17 : decode cX7_isWithin 17 = .ok (.i2l, 1) := by decide +kernel
theorem dX7_isWithin_18 : decode cX7_isWithin 18 = .ok (.lload_n 1, 1) := by decide +kernel
theorem dX7_isWithin_19 : decode cX7_isWithin 19 = .ok (.lmul, 1) := by decide +kernel
theorem dX7_isWithin_20 : decode cX7_isWithin 20 = .ok (.lcmp, 1) := by decide +kernel
theorem dX7_isWithin_21 : decode cX7_isWithin 21 = .ok (.ifCond .gt 7, 3) := by decide +kernel
theorem dX7_isWithin_24 : decode cX7_isWithin 24 = .ok (.iconst 1, 1) := by decide +kernel
theorem dX7_isWithin_25 : decode cX7_isWithin 25 = .ok (.goto 4, 3) := by decide +kernel
theorem dX7_isWithin_28 : decode cX7_isWithin 28 = .ok (.iconst 0, 1) := by decide +kernel
theorem dX7_isWithin_29 : decode cX7_isWithin 29 = .ok (.ireturn, 1) := by decide +kernel
theorem dX7_mayOf_0 : decode cX7_mayOf 0 = .ok (.iconst 0, 1) := by decide +kernel
theorem dX7_mayOf_1 : decode cX7_mayOf 1 = .ok (.istore_n 3, 1) := by decide +kernel
theorem dX7_mayOf_2 : decode cX7_mayOf 2 = .ok (.iconst 0, 1) := by decide +kernel
theorem dX7_mayOf_3 : decode cX7_mayOf 3 = .ok (.istore 4, 2) := by decide +kernel
theorem dX7_mayOf_5 : decode cX7_mayOf 5 = .ok (.iload 4, 2) := by decide +kernel
theorem dX7_mayOf_7 : decode cX7_mayOf 7 = .ok (.aload_n 0, 1) := by decide +kernel
theorem dX7_mayOf_8 : decode cX7_mayOf 8 = .ok (.getfield 187, 3) := by decide +kernel
theorem dX7_mayOf_11 : decode cX7_mayOf 11 = .ok (.if_icmp .ge 48, 3) := by decide +kernel
theorem dX7_mayOf_14 : decode cX7_mayOf 14 = .ok (.iload_n 3, 1) := by decide +kernel
theorem dX7_mayOf_15 : decode cX7_mayOf 15 = .ok (.aload_n 0, 1) := by decide +kernel
theorem dX7_mayOf_16 : decode cX7_mayOf 16 = .ok (.getfield 61, 3) := by decide +kernel
theorem dX7_mayOf_19 : decode cX7_mayOf 19 = .ok (.iload 4, 2) := by decide +kernel
theorem dX7_mayOf_21 : decode cX7_mayOf 21 = .ok (.iaload, 1) := by decide +kernel
theorem dX7_mayOf_22 : decode cX7_mayOf 22 = .ok (.iload_n 1, 1) := by decide +kernel
theorem dX7_mayOf_23 : decode cX7_mayOf 23 = .ok (.if_icmp .ne 27, 3) := by decide +kernel
theorem dX7_mayOf_26 : decode cX7_mayOf 26 = .ok (.aload_n 0, 1) := by decide +kernel
theorem dX7_mayOf_27 : decode cX7_mayOf 27 = .ok (.getfield 64, 3) := by decide +kernel
theorem dX7_mayOf_30 : decode cX7_mayOf 30 = .ok (.iload 4, 2) := by decide +kernel
theorem dX7_mayOf_32 : decode cX7_mayOf 32 = .ok (.iaload, 1) := by decide +kernel
theorem dX7_mayOf_33 : decode cX7_mayOf 33 = .ok (.iload_n 2, 1) := by decide +kernel
theorem dX7_mayOf_34 : decode cX7_mayOf 34 = .ok (.if_icmp .ne 16, 3) := by decide +kernel
theorem dX7_mayOf_37 : decode cX7_mayOf 37 = .ok (.aload_n 0, 1) := by decide +kernel
theorem dX7_mayOf_38 : decode cX7_mayOf 38 = .ok (.iload 4, 2) := by decide +kernel
theorem dX7_mayOf_40 : decode cX7_mayOf 40 = .ok (.invokevirtual 203, 3) := by decide +kernel
theorem dX7_mayOf_43 : decode cX7_mayOf 43 = .ok (.ifCond .eq 7, 3) := by decide +kernel
theorem dX7_mayOf_46 : decode cX7_mayOf 46 = .ok (.iconst 1, 1) := by decide +kernel
theorem dX7_mayOf_47 : decode cX7_mayOf 47 = .ok (.goto 4, 3) := by decide +kernel
theorem dX7_mayOf_50 : decode cX7_mayOf 50 = .ok (.iconst 0, 1) := by decide +kernel
theorem dX7_mayOf_51 : decode cX7_mayOf 51 = .ok (.iadd, 1) := by decide +kernel
theorem dX7_mayOf_52 : decode cX7_mayOf 52 = .ok (.istore_n 3, 1) := by decide +kernel
theorem dX7_mayOf_53 : decode cX7_mayOf 53 = .ok (.iinc 4 1, 3) := by decide +kernel
theorem dX7_mayOf_56 : decode cX7_mayOf 56 = .ok (.goto (-51), 3) := by decide +kernel
theorem dX7_mayOf_59 : decode cX7_mayOf 59 = .ok (.iload_n 3, 1) := by decide +kernel
theorem dX7_mayOf_60 : decode cX7_mayOf 60 = .ok (.iconst 1, 1) := by decide +kernel
theorem dX7_mayOf_61 : decode cX7_mayOf 61 = .ok (.if_icmp .gt 29, 3) := by decide +kernel
theorem dX7_mayOf_64 : decode cX7_mayOf 64 = .ok (.aload_n 0, 1) := by decide +kernel
theorem dX7_mayOf_65 : decode cX7_mayOf 65 = .ok (.iload_n 2, 1) := by decide +kernel
theorem dX7_mayOf_66 : decode cX7_mayOf 66 = .ok (.invokevirtual 220, 3) := by decide +kernel
theorem dX7_mayOf_69 : decode cX7_mayOf 69 = .ok (.lconst 0, 1) := by decide +kernel
theorem dX7_mayOf_70 : decode cX7_mayOf 70 = .ok (.lcmp, 1) := by decide +kernel
theorem dX7_mayOf_71 : decode cX7_mayOf 71 = .ok (.ifCond .eq 19, 3) := by decide +kernel
theorem dX7_mayOf_74 : decode cX7_mayOf 74 = .ok (.aload_n 0, 1) := by decide +kernel
theorem dX7_mayOf_75 : decode cX7_mayOf 75 = .ok (.iload_n 2, 1) := by decide +kernel
theorem dX7_mayOf_76 : decode cX7_mayOf 76 = .ok (.invokevirtual 277, 3) := by decide +kernel
theorem dX7_mayOf_79 : decode cX7_mayOf 79 = .ok (.ifCond .eq 11, 3) := by decide +kernel
theorem dX7_mayOf_82 : decode cX7_mayOf 82 = .ok (.aload_n 0, 1) := by decide +kernel
theorem dX7_mayOf_83 : decode cX7_mayOf 83 = .ok (.iload_n 1, 1) := by decide +kernel
theorem dX7_mayOf_84 : decode cX7_mayOf 84 = .ok (.invokevirtual 271, 3) := by decide +kernel
theorem dX7_mayOf_87 : decode cX7_mayOf 87 = .ok (.ifCond .eq 5, 3) := by decide +kernel
theorem dX7_mayOf_90 : decode cX7_mayOf 90 = .ok (.iconst 0, 1) := by decide +kernel
theorem dX7_mayOf_91 : decode cX7_mayOf 91 = .ok (.ireturn, 1) := by decide +kernel
theorem dX7_mayOf_92 : decode cX7_mayOf 92 = .ok (.aload_n 0, 1) := by decide +kernel
theorem dX7_mayOf_93 : decode cX7_mayOf 93 = .ok (.getfield 103, 3) := by decide +kernel
theorem dX7_mayOf_96 : decode cX7_mayOf 96 = .ok (.lstore 4, 2) := by decide +kernel
theorem dX7_mayOf_98 : decode cX7_mayOf 98 = .ok (.aload_n 0, 1) := by decide +kernel
theorem dX7_mayOf_99 : decode cX7_mayOf 99 = .ok (.getfield 7, 3) := by decide +kernel
theorem dX7_mayOf_102 : decode cX7_mayOf 102 = .ok (.lstore 6, 2) := by decide +kernel
theorem dX7_mayOf_104 : decode cX7_mayOf 104 = .ok (.aload_n 0, 1) := by decide +kernel
theorem dX7_mayOf_105 : decode cX7_mayOf 105 = .ok (.iload_n 2, 1) := by decide +kernel
theorem dX7_mayOf_106 : decode cX7_mayOf 106 = .ok (.iconst 1, 1) := by decide +kernel
theorem dX7_mayOf_107 : decode cX7_mayOf 107 = .ok (.invokevirtual 262, 3) := by decide +kernel
theorem dX7_mayOf_110 : decode cX7_mayOf 110 = .ok (.istore 8, 2) := by decide +kernel
theorem dX7_mayOf_112 : decode cX7_mayOf 112 = .ok (.aload_n 0, 1) := by decide +kernel
theorem dX7_mayOf_113 : decode cX7_mayOf 113 = .ok (.lload 4, 2) := by decide +kernel
theorem dX7_mayOf_115 : decode cX7_mayOf 115 = .ok (.aload_n 0, 1) := by decide +kernel
theorem dX7_mayOf_116 : decode cX7_mayOf 116 = .ok (.getfield 103, 3) := by decide +kernel
theorem dX7_mayOf_119 : decode cX7_mayOf 119 = .ok (.lmul, 1) := by decide +kernel
theorem dX7_mayOf_120 : decode cX7_mayOf 120 = .ok (.lload 6, 2) := by decide +kernel
theorem dX7_mayOf_122 : decode cX7_mayOf 122 = .ok (.aload_n 0, 1) := by decide +kernel
theorem dX7_mayOf_123 : decode cX7_mayOf 123 = .ok (.getfield 7, 3) := by decide +kernel
theorem dX7_mayOf_126 : decode cX7_mayOf 126 = .ok (.lmul, 1) := by decide +kernel
theorem dX7_mayOf_127 : decode cX7_mayOf 127 = .ok (.invokevirtual 280, 3) := by decide +kernel
theorem dX7_mayOf_130 : decode cX7_mayOf 130 = .ok (.istore 9, 2) := by decide +kernel
theorem dX7_mayOf_132 : decode cX7_mayOf 132 = .ok (.aload_n 0, 1) := by decide +kernel
theorem dX7_mayOf_133 : decode cX7_mayOf 133 = .ok (.iload_n 2, 1) := by decide +kernel
theorem dX7_mayOf_134 : decode cX7_mayOf 134 = .ok (.iconst 0, 1) := by decide +kernel
theorem dX7_mayOf_135 : decode cX7_mayOf 135 = .ok (.invokevirtual 262, 3) := by decide +kernel
theorem dX7_mayOf_138 : decode cX7_mayOf 138 = .ok (.istore 8, 2) := by decide +kernel
theorem dX7_mayOf_140 : decode cX7_mayOf 140 = .ok (.iload 9, 2) := by decide +kernel
theorem dX7_mayOf_142 : decode cX7_mayOf 142 = .ok (.ifCond .eq 28, 3) := by decide +kernel
theorem dX7_mayOf_145 : decode cX7_mayOf 145 = .ok (.aload_n 0, 1) := by decide +kernel
theorem dX7_mayOf_146 : decode cX7_mayOf 146 = .ok (.lload 4, 2) := by decide +kernel
theorem dX7_mayOf_148 : decode cX7_mayOf 148 = .ok (.aload_n 0, 1) := by decide +kernel
theorem dX7_mayOf_149 : decode cX7_mayOf 149 = .ok (.getfield 103, 3) := by decide +kernel
theorem dX7_mayOf_152 : decode cX7_mayOf 152 = .ok (.lmul, 1) := by decide +kernel
theorem dX7_mayOf_153 : decode cX7_mayOf 153 = .ok (.lload 6, 2) := by decide +kernel
theorem dX7_mayOf_155 : decode cX7_mayOf 155 = .ok (.aload_n 0, 1) := by decide +kernel
theorem dX7_mayOf_156 : decode cX7_mayOf 156 = .ok (.getfield 7, 3) := by decide +kernel
theorem dX7_mayOf_159 : decode cX7_mayOf 159 = .ok (.lmul, 1) := by decide +kernel
theorem dX7_mayOf_160 : decode cX7_mayOf 160 = .ok (.invokevirtual 280, 3) := by decide +kernel
theorem dX7_mayOf_163 : decode cX7_mayOf 163 = .ok (.ifCond .eq 7, 3) := by decide +kernel
theorem dX7_mayOf_166 : decode cX7_mayOf 166 = .ok (.iconst 1, 1) := by decide +kernel
theorem dX7_mayOf_167 : decode cX7_mayOf 167 = .ok (.goto 4, 3) := by decide +kernel
theorem dX7_mayOf_170 : decode cX7_mayOf 170 = .ok (.iconst 0, 1) := by decide +kernel
theorem dX7_mayOf_171 : decode cX7_mayOf 171 = .ok (.ireturn, 1) := by decide +kernel
theorem dX7_may_0 : decode cX7_may 0 = .ok (.iload_n 1, 1) := by decide +kernel
theorem dX7_may_1 : decode cX7_may 1 = .ok (.invokestatic 181, 3) := by decide +kernel
theorem dX7_may_4 : decode cX7_may 4 = .ok (.ifCond .eq 10, 3) := by decide +kernel
theorem dX7_may_7 : decode cX7_may 7 = .ok (.iload_n 2, 1) := by decide +kernel
theorem dX7_may_8 : decode cX7_may 8 = .ok (.invokestatic 110, 3) := by decide +kernel
theorem dX7_may_11 : decode cX7_may 11 = .ok (.ifCond .ne 6, 3) := by decide +kernel
theorem dX7_may_14 : decode cX7_may 14 = .ok (.bipush (-2), 2) := by decide +kernel
theorem dX7_may_16 : decode cX7_may 16 = .ok (.ireturn, 1) := by decide +kernel
theorem dX7_may_17 : decode cX7_may 17 = .ok (.aload_n 0, 1) := by decide +kernel
theorem dX7_may_18 : decode cX7_may 18 = .ok (.iload_n 2, 1) := by decide +kernel
theorem dX7_may_19 : decode cX7_may 19 = .ok (.invokevirtual 147, 3) := by decide +kernel
theorem dX7_may_22 : decode cX7_may 22 = .ok (.iconst (-1), 1) := by decide +kernel
theorem dX7_may_23 : decode cX7_may 23 = .ok (.if_icmp .eq 8, 3) := by decide +kernel
theorem dX7_may_26 : decode cX7_may 26 = .ok (.bipush (-3), 2) := by decide +kernel
theorem dX7_may_28 : decode cX7_may 28 = .ok (.goto 9, 3) := by decide +kernel
theorem dX7_may_31 : decode cX7_may 31 = .ok (.aload_n 0, 1) := by decide +kernel
theorem dX7_may_32 : decode cX7_may 32 = .ok (.iload_n 1, 1) := by decide +kernel
theorem dX7_may_33 : decode cX7_may 33 = .ok (.iload_n 2, 1) := by decide +kernel
theorem dX7_may_34 : decode cX7_may 34 = .ok (.invokevirtual 284, 3) := by decide +kernel
theorem dX7_may_37 : decode cX7_may 37 = .ok (.ireturn, 1) := by decide +kernel
theorem dX7_best_0 : decode cX7_best 0 = .ok (.iload_n 1, 1) := by decide +kernel
theorem dX7_best_1 : decode cX7_best 1 = .ok (.iconst 2, 1) := by decide +kernel
theorem dX7_best_2 : decode cX7_best 2 = .ok (.bipush 30, 2) := by decide +kernel
theorem dX7_best_4 : decode cX7_best 4 = .ok (.invokestatic 106, 3) := by decide +kernel
theorem dX7_best_7 : decode cX7_best 7 = .ok (.ifCond .eq 22, 3) := by decide +kernel
theorem dX7_best_10 : decode cX7_best 10 = .ok (.iload_n 2, 1) := by decide +kernel
theorem dX7_best_11 : decode cX7_best 11 = .ok (.iconst 0, 1) := by decide +kernel
theorem dX7_best_12 : decode cX7_best 12 = .ok (.bipush 100, 2) := by decide +kernel
theorem dX7_best_14 : decode cX7_best 14 = .ok (.invokestatic 106, 3) := by decide +kernel
theorem dX7_best_17 : decode cX7_best 17 = .ok (.ifCond .eq 12, 3) := by decide +kernel
theorem dX7_best_20 : decode cX7_best 20 = .ok (.iload_n 3, 1) := by decide +kernel
theorem dX7_best_21 : decode cX7_best 21 = .ok (.iconst 0, 1) := by decide +kernel
theorem dX7_best_22 : decode cX7_best 22 = .ok (.iconst 1, 1) := by decide +kernel
theorem dX7_best_23 : decode cX7_best 23 = .ok (.invokestatic 106, 3) := by decide +kernel
theorem dX7_best_26 : decode cX7_best 26 = .ok (.ifCond .ne 6, 3) := by decide +kernel
theorem dX7_best_29 : decode cX7_best 29 = .ok (.bipush (-2), 2) := by decide +kernel
theorem dX7_best_31 : decode cX7_best 31 = .ok (.ireturn, 1) := by decide +kernel
theorem dX7_best_32 : decode cX7_best 32 = .ok (.iconst (-1), 1) := by decide +kernel
theorem dX7_best_33 : decode cX7_best 33 = .ok (.istore 4, 2) := by decide +kernel
theorem dX7_best_35 : decode cX7_best 35 = .ok (.iconst (-1), 1) := by decide +kernel
theorem dX7_best_36 : decode cX7_best 36 = .ok (.istore 5, 2) := by decide +kernel
theorem dX7_best_38 : decode cX7_best 38 = .ok (.lconst 0, 1) := by decide +kernel
theorem dX7_best_39 : decode cX7_best 39 = .ok (.lstore 6, 2) := by decide +kernel
theorem dX7_best_41 : decode cX7_best 41 = .ok (.iconst 2, 1) := by decide +kernel
theorem dX7_best_42 : decode cX7_best 42 = .ok (.istore 8, 2) := by decide +kernel
theorem dX7_best_44 : decode cX7_best 44 = .ok (.iload 8, 2) := by decide +kernel
theorem dX7_best_46 : decode cX7_best 46 = .ok (.bipush 24, 2) := by decide +kernel
theorem dX7_best_48 : decode cX7_best 48 = .ok (.if_icmp .ge 147, 3) := by decide +kernel
theorem dX7_best_51 : decode cX7_best 51 = .ok (.iconst 1, 1) := by decide +kernel
theorem dX7_best_52 : decode cX7_best 52 = .ok (.istore 9, 2) := by decide +kernel
theorem dX7_best_54 : decode cX7_best 54 = .ok (.iload 9, 2) := by decide +kernel
theorem dX7_best_56 : decode cX7_best 56 = .ok (.iload 8, 2) := by decide +kernel
theorem dX7_best_58 : decode cX7_best 58 = .ok (.if_icmp .ge 131, 3) := by decide +kernel
theorem dX7_best_61 : decode cX7_best 61 = .ok (.iload_n 2, 1) := by decide +kernel
theorem dX7_best_62 : decode cX7_best 62 = .ok (.iload 8, 2) := by decide +kernel
theorem dX7_best_64 : decode cX7_best 64 = .ok (.imul, 1) := by decide +kernel
theorem dX7_best_65 : decode cX7_best 65 = .ok (.bipush 100, 2) := by decide +kernel
theorem dX7_best_67 : decode cX7_best 67 = .ok (.iload_n 2, 1) := by decide +kernel
theorem dX7_best_68 : decode cX7_best 68 = .ok (.isub, 1) := by decide +kernel
theorem dX7_best_69 : decode cX7_best 69 = .ok (.iload 9, 2) := by decide +kernel
theorem dX7_best_71 : decode cX7_best 71 = .ok (.imul, 1) := by decide +kernel
theorem dX7_best_72 : decode cX7_best 72 = .ok (.iadd, 1) := by decide +kernel
theorem dX7_best_73 : decode cX7_best 73 = .ok (.i2l, 1) := by decide +kernel
theorem dX7_best_74 : decode cX7_best 74 = .ok (.lstore 10, 2) := by decide +kernel
theorem dX7_best_76 : decode cX7_best 76 = .ok (.lload 10, 2) := by decide +kernel
theorem dX7_best_78 : decode cX7_best 78 = .ok (.ldc2_w 287, 3) := by decide +kernel
theorem dX7_best_81 : decode cX7_best 81 = .ok (.lload 10, 2) := by decide +kernel
theorem dX7_best_83 : decode cX7_best 83 = .ok (.lsub, 1) := by decide +kernel
theorem dX7_best_84 : decode cX7_best 84 = .ok (.lmul, 1) := by decide +kernel
theorem dX7_best_85 : decode cX7_best 85 = .ok (.lstore 12, 2) := by decide +kernel
theorem dX7_best_87 : decode cX7_best 87 = .ok (.iload 8, 2) := by decide +kernel
theorem dX7_best_89 : decode cX7_best 89 = .ok (.iload_n 1, 1) := by decide +kernel
theorem dX7_best_90 : decode cX7_best 90 = .ok (.iload 9, 2) := by decide +kernel
theorem dX7_best_92 : decode cX7_best 92 = .ok (.imul, 1) := by decide +kernel
theorem dX7_best_93 : decode cX7_best 93 = .ok (.if_icmp .gt 22, 3) := by decide +kernel
theorem dX7_best_96 : decode cX7_best 96 = .ok (.bipush 24, 2) := by decide +kernel
theorem dX7_best_98 : decode cX7_best 98 = .ok (.iload 9, 2) := by decide +kernel
theorem dX7_best_100 : decode cX7_best 100 = .ok (.isub, 1) := by decide +kernel
theorem dX7_best_101 : decode cX7_best 101 = .ok (.iload_n 1, 1) := by decide +kernel
theorem dX7_best_102 : decode cX7_best 102 = .ok (.bipush 24, 2) := by decide +kernel
theorem dX7_best_104 : decode cX7_best 104 = .ok (.iload 8, 2) := by decide +kernel
theorem dX7_best_106 : decode cX7_best 106 = .ok (.isub, 1) := by decide +kernel
theorem dX7_best_107 : decode cX7_best 107 = .ok (.imul, 1) := by decide +kernel
theorem dX7_best_108 : decode cX7_best 108 = .ok (.if_icmp .gt 7, 3) := by decide +kernel
theorem dX7_best_111 : decode cX7_best 111 = .ok (.iconst 1, 1) := by decide +kernel
theorem dX7_best_112 : decode cX7_best 112 = .ok (.goto 4, 3) := by decide +kernel
theorem dX7_best_115 : decode cX7_best 115 = .ok (.iconst 0, 1) := by decide +kernel
theorem dX7_best_116 : decode cX7_best 116 = .ok (.istore 14, 2) := by decide +kernel
theorem dX7_best_118 : decode cX7_best 118 = .ok (.iload 8, 2) := by decide +kernel
theorem dX7_best_120 : decode cX7_best 120 = .ok (.iload 9, 2) := by decide +kernel
theorem dX7_best_122 : decode cX7_best 122 = .ok (.isub, 1) := by decide +kernel
theorem dX7_best_123 : decode cX7_best 123 = .ok (.iload 8, 2) := by decide +kernel
theorem dX7_best_125 : decode cX7_best 125 = .ok (.iload 9, 2) := by decide +kernel
theorem dX7_best_127 : decode cX7_best 127 = .ok (.isub, 1) := by decide +kernel
theorem dX7_best_128 : decode cX7_best 128 = .ok (.imul, 1) := by decide +kernel
theorem dX7_best_129 : decode cX7_best 129 = .ok (.i2l, 1) := by decide +kernel
theorem dX7_best_130 : decode cX7_best 130 = .ok (.lstore 15, 2) := by decide +kernel
theorem dX7_best_132 : decode cX7_best 132 = .ok (.iload 4, 2) := by decide +kernel
theorem dX7_best_134 : decode cX7_best 134 = .ok (.iload 5, 2) := by decide +kernel
theorem dX7_best_136 : decode cX7_best 136 = .ok (.isub, 1) := by decide +kernel
theorem dX7_best_137 : decode cX7_best 137 = .ok (.iload 4, 2) := by decide +kernel
theorem dX7_best_139 : decode cX7_best 139 = .ok (.iload 5, 2) := by decide +kernel
theorem dX7_best_141 : decode cX7_best 141 = .ok (.isub, 1) := by decide +kernel
theorem dX7_best_142 : decode cX7_best 142 = .ok (.imul, 1) := by decide +kernel
theorem dX7_best_143 : decode cX7_best 143 = .ok (.i2l, 1) := by decide +kernel
theorem dX7_best_144 : decode cX7_best 144 = .ok (.lstore 17, 2) := by decide +kernel
theorem dX7_best_146 : decode cX7_best 146 = .ok (.iload 14, 2) := by decide +kernel
theorem dX7_best_148 : decode cX7_best 148 = .ok (.ifCond .eq 35, 3) := by decide +kernel
theorem dX7_best_151 : decode cX7_best 151 = .ok (.iload 4, 2) := by decide +kernel
theorem dX7_best_153 : decode cX7_best 153 = .ok (.iconst (-1), 1) := by decide +kernel
theorem dX7_best_154 : decode cX7_best 154 = .ok (.if_icmp .eq 17, 3) := by decide +kernel
theorem dX7_best_157 : decode cX7_best 157 = .ok (.lload 12, 2) := by decide +kernel
theorem dX7_best_159 : decode cX7_best 159 = .ok (.lload 17, 2) := by decide +kernel
theorem dX7_best_161 : decode cX7_best 161 = .ok (.lmul, 1) := by decide +kernel
theorem dX7_best_162 : decode cX7_best 162 = .ok (.lload 6, 2) := by decide +kernel
theorem dX7_best_164 : decode cX7_best 164 = .ok (.lload 15, 2) := by decide +kernel
theorem dX7_best_166 : decode cX7_best 166 = .ok (.lmul, 1) := by decide +kernel
theorem dX7_best_167 : decode cX7_best 167 = .ok (.lcmp, 1) := by decide +kernel
theorem dX7_best_168 : decode cX7_best 168 = .ok (.ifCond .ge 15, 3) := by decide +kernel
theorem dX7_best_171 : decode cX7_best 171 = .ok (.iload 8, 2) := by decide +kernel
theorem dX7_best_173 : decode cX7_best 173 = .ok (.istore 4, 2) := by decide +kernel
theorem dX7_best_175 : decode cX7_best 175 = .ok (.iload 9, 2) := by decide +kernel
theorem dX7_best_177 : decode cX7_best 177 = .ok (.istore 5, 2) := by decide +kernel
theorem dX7_best_179 : decode cX7_best 179 = .ok (.lload 12, 2) := by decide +kernel
theorem dX7_best_181 : decode cX7_best 181 = .ok (.lstore 6, 2) := by decide +kernel
theorem dX7_best_183 : decode cX7_best 183 = .ok (.iinc 9 1, 3) := by decide +kernel
theorem dX7_best_186 : decode cX7_best 186 = .ok (.goto (-132), 3) := by decide +kernel
theorem dX7_best_189 : decode cX7_best 189 = .ok (.iinc 8 1, 3) := by decide +kernel
theorem dX7_best_192 : decode cX7_best 192 = .ok (.goto (-148), 3) := by decide +kernel
theorem dX7_best_195 : decode cX7_best 195 = .ok (.iload 4, 2) := by decide +kernel
theorem dX7_best_197 : decode cX7_best 197 = .ok (.iconst (-1), 1) := by decide +kernel
theorem dX7_best_198 : decode cX7_best 198 = .ok (.if_icmp .ne 8, 3) := by decide +kernel
theorem dX7_best_201 : decode cX7_best 201 = .ok (.bipush (-3), 2) := by decide +kernel
theorem dX7_best_203 : decode cX7_best 203 = .ok (.goto 14, 3) := by decide +kernel
theorem dX7_best_206 : decode cX7_best 206 = .ok (.iload_n 3, 1) := by decide +kernel
theorem dX7_best_207 : decode cX7_best 207 = .ok (.ifCond .ne 8, 3) := by decide +kernel
theorem dX7_best_210 : decode cX7_best 210 = .ok (.iload 4, 2) := by decide +kernel
theorem dX7_best_212 : decode cX7_best 212 = .ok (.goto 5, 3) := by decide +kernel
theorem dX7_best_215 : decode cX7_best 215 = .ok (.iload 5, 2) := by decide +kernel
theorem dX7_best_217 : decode cX7_best 217 = .ok (.ireturn, 1) := by decide +kernel
theorem dX7_counts_0 : decode cX7_counts 0 = .ok (.iload_n 2, 1) := by decide +kernel
theorem dX7_counts_1 : decode cX7_counts 1 = .ok (.ifCond .ne 31, 3) := by decide +kernel
theorem dX7_counts_4 : decode cX7_counts 4 = .ok (.iload_n 3, 1) := by decide +kernel
theorem dX7_counts_5 : decode cX7_counts 5 = .ok (.iconst 1, 1) := by decide +kernel
theorem dX7_counts_6 : decode cX7_counts 6 = .ok (.if_icmp .ne 18, 3) := by decide +kernel
theorem dX7_counts_9 : decode cX7_counts 9 = .ok (.aload_n 0, 1) := by decide +kernel
theorem dX7_counts_10 : decode cX7_counts 10 = .ok (.iload_n 1, 1) := by decide +kernel
theorem dX7_counts_11 : decode cX7_counts 11 = .ok (.invokevirtual 161, 3) := by decide +kernel
theorem dX7_counts_14 : decode cX7_counts 14 = .ok (.aload_n 0, 1) := by decide +kernel
theorem dX7_counts_15 : decode cX7_counts 15 = .ok (.iload_n 1, 1) := by decide +kernel
theorem dX7_counts_16 : decode cX7_counts 16 = .ok (.iconst 0, 1) := by decide +kernel
theorem dX7_counts_17 : decode cX7_counts 17 = .ok (.invokevirtual 153, 3) := by decide +kernel
theorem dX7_counts_20 : decode cX7_counts 20 = .ok (.lsub, 1) := by decide +kernel
theorem dX7_counts_21 : decode cX7_counts 21 = .ok (.goto 10, 3) := by decide +kernel
theorem dX7_counts_24 : decode cX7_counts 24 = .ok (.aload_n 0, 1) := by decide +kernel
theorem dX7_counts_25 : decode cX7_counts 25 = .ok (.iload_n 1, 1) := by decide +kernel
theorem dX7_counts_26 : decode cX7_counts 26 = .ok (.iconst 0, 1) := by decide +kernel
theorem dX7_counts_27 : decode cX7_counts 27 = .ok (.invokevirtual 153, 3) := by decide +kernel
theorem dX7_counts_30 : decode cX7_counts 30 = .ok (.lneg, 1) := by decide +kernel
theorem dX7_counts_31 : decode cX7_counts 31 = .ok (.lreturn, 1) := by decide +kernel
theorem dX7_counts_32 : decode cX7_counts 32 = .ok (.iload_n 3, 1) := by decide +kernel
theorem dX7_counts_33 : decode cX7_counts 33 = .ok (.iconst 1, 1) := by decide +kernel
theorem dX7_counts_34 : decode cX7_counts 34 = .ok (.if_icmp .ne 18, 3) := by decide +kernel
theorem dX7_counts_37 : decode cX7_counts 37 = .ok (.aload_n 0, 1) := by decide +kernel
theorem dX7_counts_38 : decode cX7_counts 38 = .ok (.iload_n 1, 1) := by decide +kernel
theorem dX7_counts_39 : decode cX7_counts 39 = .ok (.iconst 1, 1) := by decide +kernel
theorem dX7_counts_40 : decode cX7_counts 40 = .ok (.invokevirtual 153, 3) := by decide +kernel
theorem dX7_counts_43 : decode cX7_counts 43 = .ok (.aload_n 0, 1) := by decide +kernel
theorem dX7_counts_44 : decode cX7_counts 44 = .ok (.iload_n 1, 1) := by decide +kernel
theorem dX7_counts_45 : decode cX7_counts 45 = .ok (.invokevirtual 161, 3) := by decide +kernel
theorem dX7_counts_48 : decode cX7_counts 48 = .ok (.lsub, 1) := by decide +kernel
theorem dX7_counts_49 : decode cX7_counts 49 = .ok (.goto 9, 3) := by decide +kernel
theorem dX7_counts_52 : decode cX7_counts 52 = .ok (.aload_n 0, 1) := by decide +kernel
theorem dX7_counts_53 : decode cX7_counts 53 = .ok (.iload_n 1, 1) := by decide +kernel
theorem dX7_counts_54 : decode cX7_counts 54 = .ok (.iconst 1, 1) := by decide +kernel
theorem dX7_counts_55 : decode cX7_counts 55 = .ok (.invokevirtual 153, 3) := by decide +kernel
theorem dX7_counts_58 : decode cX7_counts 58 = .ok (.lreturn, 1) := by decide +kernel
theorem dX7_parted_0 : decode cX7_parted 0 = .ok (.iload_n 1, 1) := by decide +kernel
theorem dX7_parted_1 : decode cX7_parted 1 = .ok (.invokestatic 194, 3) := by decide +kernel
theorem dX7_parted_4 : decode cX7_parted 4 = .ok (.ifCond .eq 37, 3) := by decide +kernel
theorem dX7_parted_7 : decode cX7_parted 7 = .ok (.iload_n 2, 1) := by decide +kernel
theorem dX7_parted_8 : decode cX7_parted 8 = .ok (.invokestatic 110, 3) := by decide +kernel
theorem dX7_parted_11 : decode cX7_parted 11 = .ok (.ifCond .eq 30, 3) := by decide +kernel
theorem dX7_parted_14 : decode cX7_parted 14 = .ok (.iload_n 3, 1) := by decide +kernel
theorem dX7_parted_15 : decode cX7_parted 15 = .ok (.invokestatic 110, 3) := by decide +kernel
theorem dX7_parted_18 : decode cX7_parted 18 = .ok (.ifCond .eq 23, 3) := by decide +kernel
theorem dX7_parted_21 : decode cX7_parted 21 = .ok (.iload 4, 2) := by decide +kernel
theorem dX7_parted_23 : decode cX7_parted 23 = .ok (.iconst 0, 1) := by decide +kernel
theorem dX7_parted_24 : decode cX7_parted 24 = .ok (.iconst 3, 1) := by decide +kernel
theorem dX7_parted_25 : decode cX7_parted 25 = .ok (.invokestatic 106, 3) := by decide +kernel
theorem dX7_parted_28 : decode cX7_parted 28 = .ok (.ifCond .eq 13, 3) := by decide +kernel
theorem dX7_parted_31 : decode cX7_parted 31 = .ok (.iload 5, 2) := by decide +kernel
theorem dX7_parted_33 : decode cX7_parted 33 = .ok (.iconst 0, 1) := by decide +kernel
theorem dX7_parted_34 : decode cX7_parted 34 = .ok (.iconst 1, 1) := by decide +kernel
theorem dX7_parted_35 : decode cX7_parted 35 = .ok (.invokestatic 106, 3) := by decide +kernel
theorem dX7_parted_38 : decode cX7_parted 38 = .ok (.ifCond .ne 9, 3) := by decide +kernel
theorem dX7_parted_41 : decode cX7_parted 41 = .ok (.bipush (-2), 2) := by decide +kernel
theorem dX7_parted_43 : decode cX7_parted 43 = .ok (.invokestatic 157, 3) := by decide +kernel
theorem dX7_parted_46 : decode cX7_parted 46 = .ok (.lreturn, 1) := by decide +kernel
theorem dX7_parted_47 : decode cX7_parted 47 = .ok (.aload_n 0, 1) := by decide +kernel
theorem dX7_parted_48 : decode cX7_parted 48 = .ok (.getfield 82, 3) := by decide +kernel
theorem dX7_parted_51 : decode cX7_parted 51 = .ok (.iload_n 1, 1) := by decide +kernel
theorem dX7_parted_52 : decode cX7_parted 52 = .ok (.baload, 1) := by decide +kernel
theorem dX7_parted_53 : decode cX7_parted 53 = .ok (.ifCond .ne 12, 3) := by decide +kernel
theorem dX7_parted_56 : decode cX7_parted 56 = .ok (.aload_n 0, 1) := by decide +kernel
theorem dX7_parted_57 : decode cX7_parted 57 = .ok (.iconst 1, 1) := by decide +kernel
theorem dX7_parted_58 : decode cX7_parted 58 = .ok (.invokevirtual 197, 3) := by decide +kernel
theorem dX7_parted_61 : decode cX7_parted 61 = .ok (.invokestatic 157, 3) := by decide +kernel
theorem dX7_parted_64 : decode cX7_parted 64 = .ok (.lreturn, 1) := by decide +kernel
theorem dX7_parted_65 : decode cX7_parted 65 = .ok (.aload_n 0, 1) := by decide +kernel
theorem dX7_parted_66 : decode cX7_parted 66 = .ok (.getfield 88, 3) := by decide +kernel
theorem dX7_parted_69 : decode cX7_parted 69 = .ok (.iload_n 1, 1) := by decide +kernel
theorem dX7_parted_70 : decode cX7_parted 70 = .ok (.iaload, 1) := by decide +kernel
theorem dX7_parted_71 : decode cX7_parted 71 = .ok (.iconst 4, 1) := by decide +kernel
theorem dX7_parted_72 : decode cX7_parted 72 = .ok (.if_icmp .ge 12, 3) := by decide +kernel
theorem dX7_parted_75 : decode cX7_parted 75 = .ok (.aload_n 0, 1) := by decide +kernel
theorem dX7_parted_76 : decode cX7_parted 76 = .ok (.iconst 2, 1) := by decide +kernel
theorem dX7_parted_77 : decode cX7_parted 77 = .ok (.invokevirtual 197, 3) := by decide +kernel
theorem dX7_parted_80 : decode cX7_parted 80 = .ok (.invokestatic 157, 3) := by decide +kernel
theorem dX7_parted_83 : decode cX7_parted 83 = .ok (.lreturn, 1) := by decide +kernel
theorem dX7_parted_84 : decode cX7_parted 84 = .ok (.aload_n 0, 1) := by decide +kernel
theorem dX7_parted_85 : decode cX7_parted 85 = .ok (.iload_n 2, 1) := by decide +kernel
theorem dX7_parted_86 : decode cX7_parted 86 = .ok (.invokevirtual 147, 3) := by decide +kernel
theorem dX7_parted_89 : decode cX7_parted 89 = .ok (.iconst (-1), 1) := by decide +kernel
theorem dX7_parted_90 : decode cX7_parted 90 = .ok (.if_icmp .ne 36, 3) := by decide +kernel
theorem dX7_parted_93 : decode cX7_parted 93 = .ok (.aload_n 0, 1) := by decide +kernel
theorem dX7_parted_94 : decode cX7_parted 94 = .ok (.iload_n 3, 1) := by decide +kernel
theorem dX7_parted_95 : decode cX7_parted 95 = .ok (.invokevirtual 147, 3) := by decide +kernel
theorem dX7_parted_98 : decode cX7_parted 98 = .ok (.iconst (-1), 1) := by decide +kernel
theorem dX7_parted_99 : decode cX7_parted 99 = .ok (.if_icmp .ne 27, 3) := by decide +kernel
theorem dX7_parted_102 : decode cX7_parted 102 = .ok (.aload_n 0, 1) := by decide +kernel
theorem dX7_parted_103 : decode cX7_parted 103 = .ok (.iload_n 2, 1) := by decide +kernel
theorem dX7_parted_104 : decode cX7_parted 104 = .ok (.invokevirtual 220, 3) := by decide +kernel
theorem dX7_parted_107 : decode cX7_parted 107 = .ok (.lconst 0, 1) := by decide +kernel
theorem dX7_parted_108 : decode cX7_parted 108 = .ok (.lcmp, 1) := by decide +kernel
theorem dX7_parted_109 : decode cX7_parted 109 = .ok (.ifCond .eq 17, 3) := by decide +kernel
theorem dX7_parted_112 : decode cX7_parted 112 = .ok (.aload_n 0, 1) := by decide +kernel
theorem dX7_parted_113 : decode cX7_parted 113 = .ok (.iload_n 3, 1) := by decide +kernel
theorem dX7_parted_114 : decode cX7_parted 114 = .ok (.invokevirtual 220, 3) := by decide +kernel
theorem dX7_parted_117 : decode cX7_parted 117 = .ok (.lconst 0, 1) := by decide +kernel
theorem dX7_parted_118 : decode cX7_parted 118 = .ok (.lcmp, 1) := by decide +kernel
theorem dX7_parted_119 : decode cX7_parted 119 = .ok (.ifCond .eq 7, 3) := by decide +kernel
theorem dX7_parted_122 : decode cX7_parted 122 = .ok (.iconst 1, 1) := by decide +kernel
theorem dX7_parted_123 : decode cX7_parted 123 = .ok (.goto 4, 3) := by decide +kernel
theorem dX7_parted_126 : decode cX7_parted 126 = .ok (.iconst 0, 1) := by decide +kernel
theorem dX7_parted_127 : decode cX7_parted 127 = .ok (.istore 6, 2) := by decide +kernel
theorem dX7_parted_129 : decode cX7_parted 129 = .ok (.lconst 0, 1) := by decide +kernel
theorem dX7_parted_130 : decode cX7_parted 130 = .ok (.lstore 7, 2) := by decide +kernel
theorem dX7_parted_132 : decode cX7_parted 132 = .ok (.lconst 0, 1) := by decide +kernel
theorem dX7_parted_133 : decode cX7_parted 133 = .ok (.lstore 9, 2) := by decide +kernel
theorem dX7_parted_135 : decode cX7_parted 135 = .ok (.iconst 0, 1) := by decide +kernel
theorem dX7_parted_136 : decode cX7_parted 136 = .ok (.istore 11, 2) := by decide +kernel
theorem dX7_parted_138 : decode cX7_parted 138 = .ok (.iload 11, 2) := by decide +kernel
theorem dX7_parted_140 : decode cX7_parted 140 = .ok (.iconst 4, 1) := by decide +kernel
theorem dX7_parted_141 : decode cX7_parted 141 = .ok (.if_icmp .ge 98, 3) := by decide +kernel
theorem dX7_parted_144 : decode cX7_parted 144 = .ok (.iload 6, 2) := by decide +kernel
theorem dX7_parted_146 : decode cX7_parted 146 = .ok (.ifCond .eq 93, 3) := by decide +kernel
theorem dX7_parted_149 : decode cX7_parted 149 = .ok (.aload_n 0, 1) := by decide +kernel
theorem dX7_parted_150 : decode cX7_parted 150 = .ok (.getfield 91, 3) := by decide +kernel
theorem dX7_parted_153 : decode cX7_parted 153 = .ok (.bipush 60, 2) := by decide +kernel
theorem dX7_parted_155 : decode cX7_parted 155 = .ok (.iload_n 1, 1) := by decide +kernel
theorem dX7_parted_156 : decode cX7_parted 156 = .ok (.imul, 1) := by decide +kernel
theorem dX7_parted_157 : decode cX7_parted 157 = .ok (.iload 11, 2) := by decide +kernel
theorem dX7_parted_159 : decode cX7_parted 159 = .ok (.iadd, 1) := by decide +kernel
theorem dX7_parted_160 : decode cX7_parted 160 = .ok (.iaload, 1) := by decide +kernel
theorem dX7_parted_161 : decode cX7_parted 161 = .ok (.istore 12, 2) := by decide +kernel
theorem dX7_parted_163 : decode cX7_parted 163 = .ok (.iload 12, 2) := by decide +kernel
theorem dX7_parted_165 : decode cX7_parted 165 = .ok (.iconst 0, 1) := by decide +kernel
theorem dX7_parted_166 : decode cX7_parted 166 = .ok (.sipush 999, 3) := by decide +kernel
theorem dX7_parted_169 : decode cX7_parted 169 = .ok (.invokestatic 106, 3) := by decide +kernel
theorem dX7_parted_172 : decode cX7_parted 172 = .ok (.istore 6, 2) := by decide +kernel
theorem dX7_parted_174 : decode cX7_parted 174 = .ok (.lload 7, 2) := by decide +kernel
theorem dX7_parted_176 : decode cX7_parted 176 = .ok (.iload 12, 2) := by decide +kernel
theorem dX7_parted_178 : decode cX7_parted 178 = .ok (.i2l, 1) := by decide +kernel
theorem dX7_parted_179 : decode cX7_parted 179 = .ok (.ladd, 1) := by decide +kernel
theorem dX7_parted_180 : decode cX7_parted 180 = .ok (.lstore 7, 2) := by decide +kernel
theorem dX7_parted_182 : decode cX7_parted 182 = .ok (.lload 9, 2) := by decide +kernel
theorem dX7_parted_184 : decode cX7_parted 184 = .ok (.iload 12, 2) := by decide +kernel
theorem dX7_parted_186 : decode cX7_parted 186 = .ok (.i2l, 1) := by decide +kernel
theorem dX7_parted_187 : decode cX7_parted 187 = .ok (.aload_n 0, 1) := by decide +kernel
theorem dX7_parted_188 : decode cX7_parted 188 = .ok (.iload_n 2, 1) := by decide +kernel
theorem dX7_parted_189 : decode cX7_parted 189 = .ok (.iload 4, 2) := by decide +kernel
theorem dX7_parted_191 : decode cX7_parted 191 = .ok (.iconst 2, 1) := by decide +kernel
theorem dX7_parted_192 : decode cX7_parted 192 = .ok (.idiv, 1) := by decide +kernel
theorem dX7_parted_193 : decode cX7_parted 193 = .ok (.iload 11, 2) := by decide +kernel
theorem dX7_parted_195 : decode cX7_parted 195 = .ok (.iconst 2, 1) := by decide +kernel
theorem dX7_parted_196 : decode cX7_parted 196 = .ok (.if_icmp .ge 7, 3) := by decide +kernel
theorem dX7_parted_199 : decode cX7_parted 199 = .ok (.iconst 1, 1) := by decide +kernel
theorem dX7_parted_200 : decode cX7_parted 200 = .ok (.goto 4, 3) := by decide +kernel
theorem dX7_parted_203 : decode cX7_parted 203 = .ok (.iconst 0, 1) := by decide +kernel
theorem dX7_parted_204 : decode cX7_parted 204 = .ok (.invokevirtual 289, 3) := by decide +kernel
theorem dX7_parted_207 : decode cX7_parted 207 = .ok (.lmul, 1) := by decide +kernel
theorem dX7_parted_208 : decode cX7_parted 208 = .ok (.aload_n 0, 1) := by decide +kernel
theorem dX7_parted_209 : decode cX7_parted 209 = .ok (.iload_n 3, 1) := by decide +kernel
theorem dX7_parted_210 : decode cX7_parted 210 = .ok (.iload 4, 2) := by decide +kernel
theorem dX7_parted_212 : decode cX7_parted 212 = .ok (.iconst 2, 1) := by decide +kernel
theorem dX7_parted_213 : decode cX7_parted 213 = .ok (.irem, 1) := by decide +kernel
theorem dX7_parted_214 : decode cX7_parted 214 = .ok (.iload 11, 2) := by decide +kernel
theorem dX7_parted_216 : decode cX7_parted 216 = .ok (.iconst 2, 1) := by decide +kernel
theorem dX7_parted_217 : decode cX7_parted 217 = .ok (.irem, 1) := by decide +kernel
theorem dX7_parted_218 : decode cX7_parted 218 = .ok (.ifCond .ne 7, 3) := by decide +kernel
theorem dX7_parted_221 : decode cX7_parted 221 = .ok (.iconst 1, 1) := by decide +kernel
theorem dX7_parted_222 : decode cX7_parted 222 = .ok (.goto 4, 3) := by decide +kernel
theorem dX7_parted_225 : decode cX7_parted 225 = .ok (.iconst 0, 1) := by decide +kernel
theorem dX7_parted_226 : decode cX7_parted 226 = .ok (.invokevirtual 289, 3) := by decide +kernel
theorem dX7_parted_229 : decode cX7_parted 229 = .ok (.lmul, 1) := by decide +kernel
theorem dX7_parted_230 : decode cX7_parted 230 = .ok (.ladd, 1) := by decide +kernel
theorem dX7_parted_231 : decode cX7_parted 231 = .ok (.lstore 9, 2) := by decide +kernel
theorem dX7_parted_233 : decode cX7_parted 233 = .ok (.iinc 11 1, 3) := by decide +kernel
theorem dX7_parted_236 : decode cX7_parted 236 = .ok (.goto (-98), 3) := by decide +kernel
theorem dX7_parted_239 : decode cX7_parted 239 = .ok (.iload 6, 2) := by decide +kernel
theorem dX7_parted_241 : decode cX7_parted 241 = .ok (.ifCond .eq 10, 3) := by decide +kernel
theorem dX7_parted_244 : decode cX7_parted 244 = .ok (.lload 7, 2) := by decide +kernel
theorem dX7_parted_246 : decode cX7_parted 246 = .ok (.lconst 0, 1) := by decide +kernel
theorem dX7_parted_247 : decode cX7_parted 247 = .ok (.lcmp, 1) := by decide +kernel
theorem dX7_parted_248 : decode cX7_parted 248 = .ok (.ifCond .ne 9, 3) := by decide +kernel
theorem dX7_parted_251 : decode cX7_parted 251 = .ok (.bipush (-3), 2) := by decide +kernel
theorem dX7_parted_253 : decode cX7_parted 253 = .ok (.invokestatic 157, 3) := by decide +kernel
theorem dX7_parted_256 : decode cX7_parted 256 = .ok (.lreturn, 1) := by decide +kernel
theorem dX7_parted_257 : decode cX7_parted 257 = .ok (.aload_n 0, 1) := by decide +kernel
theorem dX7_parted_258 : decode cX7_parted 258 = .ok (.lload 9, 2) := by decide +kernel
theorem dX7_parted_260 : decode cX7_parted 260 = .ok (.lload 7, 2) := by decide +kernel
theorem dX7_parted_262 : decode cX7_parted 262 = .ok (.aload_n 0, 1) := by decide +kernel
theorem dX7_parted_263 : decode cX7_parted 263 = .ok (.iload_n 2, 1) := by decide +kernel
theorem dX7_parted_264 : decode cX7_parted 264 = .ok (.invokevirtual 220, 3) := by decide +kernel
theorem dX7_parted_267 : decode cX7_parted 267 = .ok (.lmul, 1) := by decide +kernel
theorem dX7_parted_268 : decode cX7_parted 268 = .ok (.aload_n 0, 1) := by decide +kernel
theorem dX7_parted_269 : decode cX7_parted 269 = .ok (.iload_n 3, 1) := by decide +kernel
theorem dX7_parted_270 : decode cX7_parted 270 = .ok (.invokevirtual 220, 3) := by decide +kernel
theorem dX7_parted_273 : decode cX7_parted 273 = .ok (.lmul, 1) := by decide +kernel
theorem dX7_parted_274 : decode cX7_parted 274 = .ok (.invokevirtual 164, 3) := by decide +kernel
theorem dX7_parted_277 : decode cX7_parted 277 = .ok (.aload_n 0, 1) := by decide +kernel
theorem dX7_parted_278 : decode cX7_parted 278 = .ok (.iload 5, 2) := by decide +kernel
theorem dX7_parted_280 : decode cX7_parted 280 = .ok (.invokevirtual 168, 3) := by decide +kernel
theorem dX7_parted_283 : decode cX7_parted 283 = .ok (.lreturn, 1) := by decide +kernel
theorem dX7_kept_0 : decode cX7_kept 0 = .ok (.iload_n 1, 1) := by decide +kernel
theorem dX7_kept_1 : decode cX7_kept 1 = .ok (.iload_n 2, 1) := by decide +kernel
theorem dX7_kept_2 : decode cX7_kept 2 = .ok (.invokestatic 212, 3) := by decide +kernel
theorem dX7_kept_5 : decode cX7_kept 5 = .ok (.ifCond .ne 6, 3) := by decide +kernel
theorem dX7_kept_8 : decode cX7_kept 8 = .ok (.bipush (-2), 2) := by decide +kernel
theorem dX7_kept_10 : decode cX7_kept 10 = .ok (.ireturn, 1) := by decide +kernel
theorem dX7_kept_11 : decode cX7_kept 11 = .ok (.aload_n 0, 1) := by decide +kernel
theorem dX7_kept_12 : decode cX7_kept 12 = .ok (.iload_n 1, 1) := by decide +kernel
theorem dX7_kept_13 : decode cX7_kept 13 = .ok (.iload_n 2, 1) := by decide +kernel
theorem dX7_kept_14 : decode cX7_kept 14 = .ok (.invokevirtual 216, 3) := by decide +kernel
theorem dX7_kept_17 : decode cX7_kept 17 = .ok (.aload_n 0, 1) := by decide +kernel
theorem dX7_kept_18 : decode cX7_kept 18 = .ok (.iload_n 2, 1) := by decide +kernel
theorem dX7_kept_19 : decode cX7_kept 19 = .ok (.invokevirtual 147, 3) := by decide +kernel
theorem dX7_kept_22 : decode cX7_kept 22 = .ok (.iconst (-1), 1) := by decide +kernel
theorem dX7_kept_23 : decode cX7_kept 23 = .ok (.if_icmp .ne 20, 3) := by decide +kernel
theorem dX7_kept_26 : decode cX7_kept 26 = .ok (.aload_n 0, 1) := by decide +kernel
theorem dX7_kept_27 : decode cX7_kept 27 = .ok (.iload_n 2, 1) := by decide +kernel
theorem dX7_kept_28 : decode cX7_kept 28 = .ok (.invokevirtual 220, 3) := by decide +kernel
theorem dX7_kept_31 : decode cX7_kept 31 = .ok (.lconst 0, 1) := by decide +kernel
theorem dX7_kept_32 : decode cX7_kept 32 = .ok (.lcmp, 1) := by decide +kernel
theorem dX7_kept_33 : decode cX7_kept 33 = .ok (.ifCond .eq 10, 3) := by decide +kernel
theorem dX7_kept_36 : decode cX7_kept 36 = .ok (.aload_n 0, 1) := by decide +kernel
theorem dX7_kept_37 : decode cX7_kept 37 = .ok (.getfield 206, 3) := by decide +kernel
theorem dX7_kept_40 : decode cX7_kept 40 = .ok (.ifCond .ne 6, 3) := by decide +kernel
theorem dX7_kept_43 : decode cX7_kept 43 = .ok (.bipush (-3), 2) := by decide +kernel
theorem dX7_kept_45 : decode cX7_kept 45 = .ok (.ireturn, 1) := by decide +kernel
theorem dX7_kept_46 : decode cX7_kept 46 = .ok (.aload_n 0, 1) := by decide +kernel
theorem dX7_kept_47 : decode cX7_kept 47 = .ok (.iload_n 1, 1) := by decide +kernel
theorem dX7_kept_48 : decode cX7_kept 48 = .ok (.iload_n 2, 1) := by decide +kernel
theorem dX7_kept_49 : decode cX7_kept 49 = .ok (.iconst 0, 1) := by decide +kernel
theorem dX7_kept_50 : decode cX7_kept 50 = .ok (.invokevirtual 239, 3) := by decide +kernel
theorem dX7_kept_53 : decode cX7_kept 53 = .ok (.istore_n 3, 1) := by decide +kernel
theorem dX7_kept_54 : decode cX7_kept 54 = .ok (.iload_n 3, 1) := by decide +kernel
theorem dX7_kept_55 : decode cX7_kept 55 = .ok (.ifCond .eq 7, 3) := by decide +kernel
theorem dX7_kept_58 : decode cX7_kept 58 = .ok (.iload_n 3, 1) := by decide +kernel
theorem dX7_kept_59 : decode cX7_kept 59 = .ok (.goto 30, 3) := by decide +kernel
theorem dX7_kept_62 : decode cX7_kept 62 = .ok (.aload_n 0, 1) := by decide +kernel
theorem dX7_kept_63 : decode cX7_kept 63 = .ok (.aload_n 0, 1) := by decide +kernel
theorem dX7_kept_64 : decode cX7_kept 64 = .ok (.iload_n 2, 1) := by decide +kernel
theorem dX7_kept_65 : decode cX7_kept 65 = .ok (.invokevirtual 220, 3) := by decide +kernel
theorem dX7_kept_68 : decode cX7_kept 68 = .ok (.lconst 0, 1) := by decide +kernel
theorem dX7_kept_69 : decode cX7_kept 69 = .ok (.lcmp, 1) := by decide +kernel
theorem dX7_kept_70 : decode cX7_kept 70 = .ok (.ifCond .le 7, 3) := by decide +kernel
theorem dX7_kept_73 : decode cX7_kept 73 = .ok (.iconst 0, 1) := by decide +kernel
theorem dX7_kept_74 : decode cX7_kept 74 = .ok (.goto 7, 3) := by decide +kernel
theorem dX7_kept_77 : decode cX7_kept 77 = .ok (.aload_n 0, 1) := by decide +kernel
theorem dX7_kept_78 : decode cX7_kept 78 = .ok (.getfield 206, 3) := by decide +kernel
theorem dX7_kept_81 : decode cX7_kept 81 = .ok (.iconst 0, 1) := by decide +kernel
theorem dX7_kept_82 : decode cX7_kept 82 = .ok (.aload_n 0, 1) := by decide +kernel
theorem dX7_kept_83 : decode cX7_kept 83 = .ok (.getfield 209, 3) := by decide +kernel
theorem dX7_kept_86 : decode cX7_kept 86 = .ok (.invokevirtual 259, 3) := by decide +kernel
theorem dX7_kept_89 : decode cX7_kept 89 = .ok (.ireturn, 1) := by decide +kernel
theorem dX7_meets_0 : decode cX7_meets 0 = .ok (.aload_n 0, 1) := by decide +kernel
theorem dX7_meets_1 : decode cX7_meets 1 = .ok (.iload_n 1, 1) := by decide +kernel
theorem dX7_meets_2 : decode cX7_meets 2 = .ok (.putfield 291, 3) := by decide +kernel
theorem dX7_meets_5 : decode cX7_meets 5 = .ok (.bipush (-10), 2) := by decide +kernel
theorem dX7_meets_7 : decode cX7_meets 7 = .ok (.iload_n 1, 1) := by decide +kernel
theorem dX7_meets_8 : decode cX7_meets 8 = .ok (.isub, 1) := by decide +kernel
theorem dX7_meets_9 : decode cX7_meets 9 = .ok (.ireturn, 1) := by decide +kernel
theorem dX7_isSheet_0 : decode cX7_isSheet 0 = .ok (.iload_n 0, 1) := by decide +kernel
theorem dX7_isSheet_1 : decode cX7_isSheet 1 = .ok (.iconst 0, 1) := by decide +kernel
theorem dX7_isSheet_2 : decode cX7_isSheet 2 = .ok (.iconst 3, 1) := by decide +kernel
theorem dX7_isSheet_3 : decode cX7_isSheet 3 = .ok (.invokestatic 106, 3) := by decide +kernel
theorem dX7_isSheet_6 : decode cX7_isSheet 6 = .ok (.ireturn, 1) := by decide +kernel
theorem dX7_sheet_0 : decode cX7_sheet 0 = .ok (.iload_n 1, 1) := by decide +kernel
theorem dX7_sheet_1 : decode cX7_sheet 1 = .ok (.invokestatic 194, 3) := by decide +kernel
theorem dX7_sheet_4 : decode cX7_sheet 4 = .ok (.ifCond .eq 18, 3) := by decide +kernel
theorem dX7_sheet_7 : decode cX7_sheet 7 = .ok (.iload_n 2, 1) := by decide +kernel
theorem dX7_sheet_8 : decode cX7_sheet 8 = .ok (.iconst 0, 1) := by decide +kernel
theorem dX7_sheet_9 : decode cX7_sheet 9 = .ok (.iconst 2, 1) := by decide +kernel
theorem dX7_sheet_10 : decode cX7_sheet 10 = .ok (.invokestatic 106, 3) := by decide +kernel
theorem dX7_sheet_13 : decode cX7_sheet 13 = .ok (.ifCond .eq 9, 3) := by decide +kernel
theorem dX7_sheet_16 : decode cX7_sheet 16 = .ok (.iload_n 3, 1) := by decide +kernel
theorem dX7_sheet_17 : decode cX7_sheet 17 = .ok (.bipush 60, 2) := by decide +kernel
theorem dX7_sheet_19 : decode cX7_sheet 19 = .ok (.if_icmp .le 6, 3) := by decide +kernel
theorem dX7_sheet_22 : decode cX7_sheet 22 = .ok (.bipush (-2), 2) := by decide +kernel
theorem dX7_sheet_24 : decode cX7_sheet 24 = .ok (.ireturn, 1) := by decide +kernel
theorem dX7_sheet_25 : decode cX7_sheet 25 = .ok (.iload_n 3, 1) := by decide +kernel
theorem dX7_sheet_26 : decode cX7_sheet 26 = .ok (.ifCond .ge 9, 3) := by decide +kernel
theorem dX7_sheet_29 : decode cX7_sheet 29 = .ok (.aload_n 0, 1) := by decide +kernel
theorem dX7_sheet_30 : decode cX7_sheet 30 = .ok (.iconst 5, 1) := by decide +kernel
theorem dX7_sheet_31 : decode cX7_sheet 31 = .ok (.invokevirtual 197, 3) := by decide +kernel
theorem dX7_sheet_34 : decode cX7_sheet 34 = .ok (.ireturn, 1) := by decide +kernel
theorem dX7_sheet_35 : decode cX7_sheet 35 = .ok (.aload_n 0, 1) := by decide +kernel
theorem dX7_sheet_36 : decode cX7_sheet 36 = .ok (.getfield 82, 3) := by decide +kernel
theorem dX7_sheet_39 : decode cX7_sheet 39 = .ok (.iload_n 1, 1) := by decide +kernel
theorem dX7_sheet_40 : decode cX7_sheet 40 = .ok (.iconst 1, 1) := by decide +kernel
theorem dX7_sheet_41 : decode cX7_sheet 41 = .ok (.bastore, 1) := by decide +kernel
theorem dX7_sheet_42 : decode cX7_sheet 42 = .ok (.aload_n 0, 1) := by decide +kernel
theorem dX7_sheet_43 : decode cX7_sheet 43 = .ok (.getfield 85, 3) := by decide +kernel
theorem dX7_sheet_46 : decode cX7_sheet 46 = .ok (.iload_n 1, 1) := by decide +kernel
theorem dX7_sheet_47 : decode cX7_sheet 47 = .ok (.iload_n 2, 1) := by decide +kernel
theorem dX7_sheet_48 : decode cX7_sheet 48 = .ok (.iastore, 1) := by decide +kernel
theorem dX7_sheet_49 : decode cX7_sheet 49 = .ok (.aload_n 0, 1) := by decide +kernel
theorem dX7_sheet_50 : decode cX7_sheet 50 = .ok (.getfield 88, 3) := by decide +kernel
theorem dX7_sheet_53 : decode cX7_sheet 53 = .ok (.iload_n 1, 1) := by decide +kernel
theorem dX7_sheet_54 : decode cX7_sheet 54 = .ok (.iload_n 3, 1) := by decide +kernel
theorem dX7_sheet_55 : decode cX7_sheet 55 = .ok (.iastore, 1) := by decide +kernel
theorem dX7_sheet_56 : decode cX7_sheet 56 = .ok (.iconst 0, 1) := by decide +kernel
theorem dX7_sheet_57 : decode cX7_sheet 57 = .ok (.istore 4, 2) := by decide +kernel
theorem dX7_sheet_59 : decode cX7_sheet 59 = .ok (.iload 4, 2) := by decide +kernel
theorem dX7_sheet_61 : decode cX7_sheet 61 = .ok (.bipush 60, 2) := by decide +kernel
theorem dX7_sheet_63 : decode cX7_sheet 63 = .ok (.if_icmp .ge 22, 3) := by decide +kernel
theorem dX7_sheet_66 : decode cX7_sheet 66 = .ok (.aload_n 0, 1) := by decide +kernel
theorem dX7_sheet_67 : decode cX7_sheet 67 = .ok (.getfield 91, 3) := by decide +kernel
theorem dX7_sheet_70 : decode cX7_sheet 70 = .ok (.bipush 60, 2) := by decide +kernel
theorem dX7_sheet_72 : decode cX7_sheet 72 = .ok (.iload_n 1, 1) := by decide +kernel
theorem dX7_sheet_73 : decode cX7_sheet 73 = .ok (.imul, 1) := by decide +kernel
theorem dX7_sheet_74 : decode cX7_sheet 74 = .ok (.iload 4, 2) := by decide +kernel
theorem dX7_sheet_76 : decode cX7_sheet 76 = .ok (.iadd, 1) := by decide +kernel
theorem dX7_sheet_77 : decode cX7_sheet 77 = .ok (.iconst 0, 1) := by decide +kernel
theorem dX7_sheet_78 : decode cX7_sheet 78 = .ok (.iastore, 1) := by decide +kernel
theorem dX7_sheet_79 : decode cX7_sheet 79 = .ok (.iinc 4 1, 3) := by decide +kernel
theorem dX7_sheet_82 : decode cX7_sheet 82 = .ok (.goto (-23), 3) := by decide +kernel
theorem dX7_sheet_85 : decode cX7_sheet 85 = .ok (.iload_n 3, 1) := by decide +kernel
theorem dX7_sheet_86 : decode cX7_sheet 86 = .ok (.ireturn, 1) := by decide +kernel
theorem dX7_lose_0 : decode cX7_lose 0 = .ok (.iload_n 1, 1) := by decide +kernel
theorem dX7_lose_1 : decode cX7_lose 1 = .ok (.invokestatic 194, 3) := by decide +kernel
theorem dX7_lose_4 : decode cX7_lose 4 = .ok (.ifCond .ne 6, 3) := by decide +kernel
theorem dX7_lose_7 : decode cX7_lose 7 = .ok (.bipush (-2), 2) := by decide +kernel
theorem dX7_lose_9 : decode cX7_lose 9 = .ok (.ireturn, 1) := by decide +kernel
theorem dX7_lose_10 : decode cX7_lose 10 = .ok (.aload_n 0, 1) := by decide +kernel
theorem dX7_lose_11 : decode cX7_lose 11 = .ok (.getfield 82, 3) := by decide +kernel
theorem dX7_lose_14 : decode cX7_lose 14 = .ok (.iload_n 1, 1) := by decide +kernel
theorem dX7_lose_15 : decode cX7_lose 15 = .ok (.baload, 1) := by decide +kernel
theorem dX7_lose_16 : decode cX7_lose 16 = .ok (.ifCond .ne 9, 3) := by decide +kernel
theorem dX7_lose_19 : decode cX7_lose 19 = .ok (.aload_n 0, 1) := by decide +kernel
theorem dX7_lose_20 : decode cX7_lose 20 = .ok (.iconst 1, 1) := by decide +kernel
theorem dX7_lose_21 : decode cX7_lose 21 = .ok (.invokevirtual 197, 3) := by decide +kernel
theorem dX7_lose_24 : decode cX7_lose 24 = .ok (.ireturn, 1) := by decide +kernel
theorem dX7_lose_25 : decode cX7_lose 25 = .ok (.aload_n 0, 1) := by decide +kernel
theorem dX7_lose_26 : decode cX7_lose 26 = .ok (.getfield 82, 3) := by decide +kernel
theorem dX7_lose_29 : decode cX7_lose 29 = .ok (.iload_n 1, 1) := by decide +kernel
theorem dX7_lose_30 : decode cX7_lose 30 = .ok (.iconst 0, 1) := by decide +kernel
theorem dX7_lose_31 : decode cX7_lose 31 = .ok (.bastore, 1) := by decide +kernel
theorem dX7_lose_32 : decode cX7_lose 32 = .ok (.aload_n 0, 1) := by decide +kernel
theorem dX7_lose_33 : decode cX7_lose 33 = .ok (.getfield 88, 3) := by decide +kernel
theorem dX7_lose_36 : decode cX7_lose 36 = .ok (.iload_n 1, 1) := by decide +kernel
theorem dX7_lose_37 : decode cX7_lose 37 = .ok (.iaload, 1) := by decide +kernel
theorem dX7_lose_38 : decode cX7_lose 38 = .ok (.ireturn, 1) := by decide +kernel
theorem dX7_lacks_0 : decode cX7_lacks 0 = .ok (.aload_n 0, 1) := by decide +kernel
theorem dX7_lacks_1 : decode cX7_lacks 1 = .ok (.getfield 82, 3) := by decide +kernel
theorem dX7_lacks_4 : decode cX7_lacks 4 = .ok (.iload_n 1, 1) := by decide +kernel
theorem dX7_lacks_5 : decode cX7_lacks 5 = .ok (.baload, 1) := by decide +kernel
theorem dX7_lacks_6 : decode cX7_lacks 6 = .ok (.ifCond .ne 7, 3) := by decide +kernel
theorem dX7_lacks_9 : decode cX7_lacks 9 = .ok (.iconst 1, 1) := by decide +kernel
theorem dX7_lacks_10 : decode cX7_lacks 10 = .ok (.goto 38, 3) := by decide +kernel
theorem dX7_lacks_13 : decode cX7_lacks 13 = .ok (.aload_n 0, 1) := by decide +kernel
theorem dX7_lacks_14 : decode cX7_lacks 14 = .ok (.getfield 85, 3) := by decide +kernel
theorem dX7_lacks_17 : decode cX7_lacks 17 = .ok (.iload_n 1, 1) := by decide +kernel
theorem dX7_lacks_18 : decode cX7_lacks 18 = .ok (.iaload, 1) := by decide +kernel
theorem dX7_lacks_19 : decode cX7_lacks 19 = .ok (.iload_n 2, 1) := by decide +kernel
theorem dX7_lacks_20 : decode cX7_lacks 20 = .ok (.if_icmp .eq 7, 3) := by decide +kernel
theorem dX7_lacks_23 : decode cX7_lacks 23 = .ok (.iconst 3, 1) := by decide +kernel
theorem dX7_lacks_24 : decode cX7_lacks 24 = .ok (.goto 24, 3) := by decide +kernel
theorem dX7_lacks_27 : decode cX7_lacks 27 = .ok (.iload_n 3, 1) := by decide +kernel
theorem dX7_lacks_28 : decode cX7_lacks 28 = .ok (.iconst 0, 1) := by decide +kernel
theorem dX7_lacks_29 : decode cX7_lacks 29 = .ok (.aload_n 0, 1) := by decide +kernel
theorem dX7_lacks_30 : decode cX7_lacks 30 = .ok (.getfield 88, 3) := by decide +kernel
theorem dX7_lacks_33 : decode cX7_lacks 33 = .ok (.iload_n 1, 1) := by decide +kernel
theorem dX7_lacks_34 : decode cX7_lacks 34 = .ok (.iaload, 1) := by decide +kernel
theorem dX7_lacks_35 : decode cX7_lacks 35 = .ok (.iconst 1, 1) := by decide +kernel
theorem dX7_lacks_36 : decode cX7_lacks 36 = .ok (.isub, 1) := by decide +kernel
theorem dX7_lacks_37 : decode cX7_lacks 37 = .ok (.invokestatic 106, 3) := by decide +kernel
theorem dX7_lacks_40 : decode cX7_lacks 40 = .ok (.ifCond .eq 7, 3) := by decide +kernel
theorem dX7_lacks_43 : decode cX7_lacks 43 = .ok (.iconst 0, 1) := by decide +kernel
theorem dX7_lacks_44 : decode cX7_lacks 44 = .ok (.goto 4, 3) := by decide +kernel
theorem dX7_lacks_47 : decode cX7_lacks 47 = .ok (.iconst 2, 1) := by decide +kernel
theorem dX7_lacks_48 : decode cX7_lacks 48 = .ok (.ireturn, 1) := by decide +kernel
theorem dX7_lay_0 : decode cX7_lay 0 = .ok (.aload_n 0, 1) := by decide +kernel
theorem dX7_lay_1 : decode cX7_lay 1 = .ok (.getfield 91, 3) := by decide +kernel
theorem dX7_lay_4 : decode cX7_lay 4 = .ok (.bipush 60, 2) := by decide +kernel
theorem dX7_lay_6 : decode cX7_lay 6 = .ok (.iload_n 1, 1) := by decide +kernel
theorem dX7_lay_7 : decode cX7_lay 7 = .ok (.imul, 1) := by decide +kernel
theorem dX7_lay_8 : decode cX7_lay 8 = .ok (.iload_n 2, 1) := by decide +kernel
theorem dX7_lay_9 : decode cX7_lay 9 = .ok (.iadd, 1) := by decide +kernel
theorem dX7_lay_10 : decode cX7_lay 10 = .ok (.aload_n 0, 1) := by decide +kernel
theorem dX7_lay_11 : decode cX7_lay 11 = .ok (.getfield 85, 3) := by decide +kernel
theorem dX7_lay_14 : decode cX7_lay 14 = .ok (.iload_n 1, 1) := by decide +kernel
theorem dX7_lay_15 : decode cX7_lay 15 = .ok (.iaload, 1) := by decide +kernel
theorem dX7_lay_16 : decode cX7_lay 16 = .ok (.ifCond .ne 8, 3) := by decide +kernel
theorem dX7_lay_19 : decode cX7_lay 19 = .ok (.iload_n 3, 1) := by decide +kernel
theorem dX7_lay_20 : decode cX7_lay 20 = .ok (.i2b, 1) := by decide +kernel
theorem dX7_lay_21 : decode cX7_lay 21 = .ok (.goto 19, 3) := by decide +kernel
theorem dX7_lay_24 : decode cX7_lay 24 = .ok (.aload_n 0, 1) := by decide +kernel
theorem dX7_lay_25 : decode cX7_lay 25 = .ok (.getfield 85, 3) := by decide +kernel
theorem dX7_lay_28 : decode cX7_lay 28 = .ok (.iload_n 1, 1) := by decide +kernel
theorem dX7_lay_29 : decode cX7_lay 29 = .ok (.iaload, 1) := by decide +kernel
theorem dX7_lay_30 : decode cX7_lay 30 = .ok (.iconst 1, 1) := by decide +kernel
theorem dX7_lay_31 : decode cX7_lay 31 = .ok (.if_icmp .ne 8, 3) := by decide +kernel
theorem dX7_lay_34 : decode cX7_lay 34 = .ok (.iload_n 3, 1) := by decide +kernel
theorem dX7_lay_35 : decode cX7_lay 35 = .ok (.i2s, 1) := by decide +kernel
theorem dX7_lay_36 : decode cX7_lay 36 = .ok (.goto 4, 3) := by decide +kernel
theorem dX7_lay_39 : decode cX7_lay 39 = .ok (.iload_n 3, 1) := by decide +kernel
theorem dX7_lay_40 : decode cX7_lay 40 = .ok (.iastore, 1) := by decide +kernel
theorem dX7_lay_41 : decode cX7_lay 41 = .ok (.return_, 1) := by decide +kernel
theorem dX7_put_0 : decode cX7_put 0 = .ok (.iload_n 1, 1) := by decide +kernel
theorem dX7_put_1 : decode cX7_put 1 = .ok (.invokestatic 194, 3) := by decide +kernel
theorem dX7_put_4 : decode cX7_put 4 = .ok (.ifCond .eq 12, 3) := by decide +kernel
theorem dX7_put_7 : decode cX7_put 7 = .ok (.iload_n 2, 1) := by decide +kernel
theorem dX7_put_8 : decode cX7_put 8 = .ok (.iconst 0, 1) := by decide +kernel
theorem dX7_put_9 : decode cX7_put 9 = .ok (.iconst 2, 1) := by decide +kernel
theorem dX7_put_10 : decode cX7_put 10 = .ok (.invokestatic 106, 3) := by decide +kernel
theorem dX7_put_13 : decode cX7_put 13 = .ok (.ifCond .ne 6, 3) := by decide +kernel
theorem dX7_put_16 : decode cX7_put 16 = .ok (.bipush (-2), 2) := by decide +kernel
theorem dX7_put_18 : decode cX7_put 18 = .ok (.ireturn, 1) := by decide +kernel
theorem dX7_put_19 : decode cX7_put 19 = .ok (.aload_n 0, 1) := by decide +kernel
theorem dX7_put_20 : decode cX7_put 20 = .ok (.iload_n 1, 1) := by decide +kernel
theorem dX7_put_21 : decode cX7_put 21 = .ok (.iload_n 2, 1) := by decide +kernel
theorem dX7_put_22 : decode cX7_put 22 = .ok (.iload_n 3, 1) := by decide +kernel
theorem dX7_put_23 : decode cX7_put 23 = .ok (.invokevirtual 294, 3) := by decide +kernel
theorem dX7_put_26 : decode cX7_put 26 = .ok (.istore 5, 2) := by decide +kernel
theorem dX7_put_28 : decode cX7_put 28 = .ok (.iload 5, 2) := by decide +kernel
theorem dX7_put_30 : decode cX7_put 30 = .ok (.ifCond .le 10, 3) := by decide +kernel
theorem dX7_put_33 : decode cX7_put 33 = .ok (.aload_n 0, 1) := by decide +kernel
theorem dX7_put_34 : decode cX7_put 34 = .ok (.iload 5, 2) := by decide +kernel
theorem dX7_put_36 : decode cX7_put 36 = .ok (.invokevirtual 197, 3) := by decide +kernel
theorem dX7_put_39 : decode cX7_put 39 = .ok (.ireturn, 1) := by decide +kernel
theorem dX7_put_40 : decode cX7_put 40 = .ok (.aload_n 0, 1) := by decide +kernel
theorem dX7_put_41 : decode cX7_put 41 = .ok (.iload_n 1, 1) := by decide +kernel
theorem dX7_put_42 : decode cX7_put 42 = .ok (.iload_n 3, 1) := by decide +kernel
theorem dX7_put_43 : decode cX7_put 43 = .ok (.iload 4, 2) := by decide +kernel
theorem dX7_put_45 : decode cX7_put 45 = .ok (.invokevirtual 297, 3) := by decide +kernel
theorem dX7_put_48 : decode cX7_put 48 = .ok (.iconst 1, 1) := by decide +kernel
theorem dX7_put_49 : decode cX7_put 49 = .ok (.ireturn, 1) := by decide +kernel
theorem dX7_get_0 : decode cX7_get 0 = .ok (.iload_n 1, 1) := by decide +kernel
theorem dX7_get_1 : decode cX7_get 1 = .ok (.invokestatic 194, 3) := by decide +kernel
theorem dX7_get_4 : decode cX7_get 4 = .ok (.ifCond .eq 12, 3) := by decide +kernel
theorem dX7_get_7 : decode cX7_get 7 = .ok (.iload_n 2, 1) := by decide +kernel
theorem dX7_get_8 : decode cX7_get 8 = .ok (.iconst 0, 1) := by decide +kernel
theorem dX7_get_9 : decode cX7_get 9 = .ok (.iconst 2, 1) := by decide +kernel
theorem dX7_get_10 : decode cX7_get 10 = .ok (.invokestatic 106, 3) := by decide +kernel
theorem dX7_get_13 : decode cX7_get 13 = .ok (.ifCond .ne 7, 3) := by decide +kernel
theorem dX7_get_16 : decode cX7_get 16 = .ok (.ldc_w 301, 3) := by decide +kernel
theorem dX7_get_19 : decode cX7_get 19 = .ok (.ireturn, 1) := by decide +kernel
theorem dX7_get_20 : decode cX7_get 20 = .ok (.aload_n 0, 1) := by decide +kernel
theorem dX7_get_21 : decode cX7_get 21 = .ok (.iload_n 1, 1) := by decide +kernel
theorem dX7_get_22 : decode cX7_get 22 = .ok (.iload_n 2, 1) := by decide +kernel
theorem dX7_get_23 : decode cX7_get 23 = .ok (.iload_n 3, 1) := by decide +kernel
theorem dX7_get_24 : decode cX7_get 24 = .ok (.invokevirtual 294, 3) := by decide +kernel
theorem dX7_get_27 : decode cX7_get 27 = .ok (.istore 4, 2) := by decide +kernel
theorem dX7_get_29 : decode cX7_get 29 = .ok (.iload 4, 2) := by decide +kernel
theorem dX7_get_31 : decode cX7_get 31 = .ok (.ifCond .le 13, 3) := by decide +kernel
theorem dX7_get_34 : decode cX7_get 34 = .ok (.aload_n 0, 1) := by decide +kernel
theorem dX7_get_35 : decode cX7_get 35 = .ok (.iload 4, 2) := by decide +kernel
theorem dX7_get_37 : decode cX7_get 37 = .ok (.putfield 291, 3) := by decide +kernel
theorem dX7_get_40 : decode cX7_get 40 = .ok (.ldc_w 301, 3) := by decide +kernel
theorem dX7_get_43 : decode cX7_get 43 = .ok (.ireturn, 1) := by decide +kernel
theorem dX7_get_44 : decode cX7_get 44 = .ok (.aload_n 0, 1) := by decide +kernel
theorem dX7_get_45 : decode cX7_get 45 = .ok (.getfield 91, 3) := by decide +kernel
theorem dX7_get_48 : decode cX7_get 48 = .ok (.bipush 60, 2) := by decide +kernel
theorem dX7_get_50 : decode cX7_get 50 = .ok (.iload_n 1, 1) := by decide +kernel
theorem dX7_get_51 : decode cX7_get 51 = .ok (.imul, 1) := by decide +kernel
theorem dX7_get_52 : decode cX7_get 52 = .ok (.iload_n 3, 1) := by decide +kernel
theorem dX7_get_53 : decode cX7_get 53 = .ok (.iadd, 1) := by decide +kernel
theorem dX7_get_54 : decode cX7_get 54 = .ok (.iaload, 1) := by decide +kernel
theorem dX7_get_55 : decode cX7_get 55 = .ok (.ireturn, 1) := by decide +kernel
theorem dX7_copy_0 : decode cX7_copy 0 = .ok (.iload_n 1, 1) := by decide +kernel
theorem dX7_copy_1 : decode cX7_copy 1 = .ok (.invokestatic 194, 3) := by decide +kernel
theorem dX7_copy_4 : decode cX7_copy 4 = .ok (.ifCond .eq 10, 3) := by decide +kernel
theorem dX7_copy_7 : decode cX7_copy 7 = .ok (.iload_n 3, 1) := by decide +kernel
theorem dX7_copy_8 : decode cX7_copy 8 = .ok (.invokestatic 194, 3) := by decide +kernel
theorem dX7_copy_11 : decode cX7_copy 11 = .ok (.ifCond .ne 6, 3) := by decide +kernel
theorem dX7_copy_14 : decode cX7_copy 14 = .ok (.bipush (-2), 2) := by decide +kernel
theorem dX7_copy_16 : decode cX7_copy 16 = .ok (.ireturn, 1) := by decide +kernel
theorem dX7_copy_17 : decode cX7_copy 17 = .ok (.aload_n 0, 1) := by decide +kernel
theorem dX7_copy_18 : decode cX7_copy 18 = .ok (.getfield 82, 3) := by decide +kernel
theorem dX7_copy_21 : decode cX7_copy 21 = .ok (.iload_n 1, 1) := by decide +kernel
theorem dX7_copy_22 : decode cX7_copy 22 = .ok (.baload, 1) := by decide +kernel
theorem dX7_copy_23 : decode cX7_copy 23 = .ok (.ifCond .eq 12, 3) := by decide +kernel
theorem dX7_copy_26 : decode cX7_copy 26 = .ok (.aload_n 0, 1) := by decide +kernel
theorem dX7_copy_27 : decode cX7_copy 27 = .ok (.getfield 82, 3) := by decide +kernel
theorem dX7_copy_30 : decode cX7_copy 30 = .ok (.iload_n 3, 1) := by decide +kernel
theorem dX7_copy_31 : decode cX7_copy 31 = .ok (.baload, 1) := by decide +kernel
theorem dX7_copy_32 : decode cX7_copy 32 = .ok (.ifCond .ne 9, 3) := by decide +kernel
theorem dX7_copy_35 : decode cX7_copy 35 = .ok (.aload_n 0, 1) := by decide +kernel
theorem dX7_copy_36 : decode cX7_copy 36 = .ok (.iconst 1, 1) := by decide +kernel
theorem dX7_copy_37 : decode cX7_copy 37 = .ok (.invokevirtual 197, 3) := by decide +kernel
theorem dX7_copy_40 : decode cX7_copy 40 = .ok (.ireturn, 1) := by decide +kernel
theorem dX7_copy_41 : decode cX7_copy 41 = .ok (.aload_n 0, 1) := by decide +kernel
theorem dX7_copy_42 : decode cX7_copy 42 = .ok (.getfield 85, 3) := by decide +kernel
theorem dX7_copy_45 : decode cX7_copy 45 = .ok (.iload_n 1, 1) := by decide +kernel
theorem dX7_copy_46 : decode cX7_copy 46 = .ok (.iaload, 1) := by decide +kernel
theorem dX7_copy_47 : decode cX7_copy 47 = .ok (.aload_n 0, 1) := by decide +kernel
theorem dX7_copy_48 : decode cX7_copy 48 = .ok (.getfield 85, 3) := by decide +kernel
theorem dX7_copy_51 : decode cX7_copy 51 = .ok (.iload_n 3, 1) := by decide +kernel
theorem dX7_copy_52 : decode cX7_copy 52 = .ok (.iaload, 1) := by decide +kernel
theorem dX7_copy_53 : decode cX7_copy 53 = .ok (.if_icmp .eq 9, 3) := by decide +kernel
theorem dX7_copy_56 : decode cX7_copy 56 = .ok (.aload_n 0, 1) := by decide +kernel
theorem dX7_copy_57 : decode cX7_copy 57 = .ok (.iconst 4, 1) := by decide +kernel
theorem dX7_copy_58 : decode cX7_copy 58 = .ok (.invokevirtual 197, 3) := by decide +kernel
theorem dX7_copy_61 : decode cX7_copy 61 = .ok (.ireturn, 1) := by decide +kernel
theorem dX7_copy_62 : decode cX7_copy 62 = .ok (.iload_n 2, 1) := by decide +kernel
theorem dX7_copy_63 : decode cX7_copy 63 = .ok (.ifCond .lt 48, 3) := by decide +kernel
theorem dX7_copy_66 : decode cX7_copy 66 = .ok (.iload 4, 2) := by decide +kernel
theorem dX7_copy_68 : decode cX7_copy 68 = .ok (.ifCond .lt 43, 3) := by decide +kernel
theorem dX7_copy_71 : decode cX7_copy 71 = .ok (.iload 5, 2) := by decide +kernel
theorem dX7_copy_73 : decode cX7_copy 73 = .ok (.ifCond .lt 38, 3) := by decide +kernel
theorem dX7_copy_76 : decode cX7_copy 76 = .ok (.iload_n 2, 1) := by decide +kernel
theorem dX7_copy_77 : decode cX7_copy 77 = .ok (.i2l, 1) := by decide +kernel
theorem dX7_copy_78 : decode cX7_copy 78 = .ok (.iload 5, 2) := by decide +kernel
theorem dX7_copy_80 : decode cX7_copy 80 = .ok (.i2l, 1) := by decide +kernel
theorem dX7_copy_81 : decode cX7_copy 81 = .ok (.ladd, 1) := by decide +kernel
theorem dX7_copy_82 : decode cX7_copy 82 = .ok (.aload_n 0, 1) := by decide +kernel
theorem dX7_copy_83 : decode cX7_copy 83 = .ok (.getfield 88, 3) := by decide +kernel
theorem dX7_copy_86 : decode cX7_copy 86 = .ok (.iload_n 1, 1) := by decide +kernel
theorem dX7_copy_87 : decode cX7_copy 87 = .ok (.iaload, 1) := by decide +kernel
theorem dX7_copy_88 : decode cX7_copy 88 = .ok (.i2l, 1) := by decide +kernel
theorem dX7_copy_89 : decode cX7_copy 89 = .ok (.lcmp, 1) := by decide +kernel
theorem dX7_copy_90 : decode cX7_copy 90 = .ok (.ifCond .gt 21, 3) := by decide +kernel
theorem dX7_copy_93 : decode cX7_copy 93 = .ok (.iload 4, 2) := by decide +kernel
theorem dX7_copy_95 : decode cX7_copy 95 = .ok (.i2l, 1) := by decide +kernel
theorem dX7_copy_96 : decode cX7_copy 96 = .ok (.iload 5, 2) := by decide +kernel
theorem dX7_copy_98 : decode cX7_copy 98 = .ok (.i2l, 1) := by decide +kernel
theorem dX7_copy_99 : decode cX7_copy 99 = .ok (.ladd, 1) := by decide +kernel
theorem dX7_copy_100 : decode cX7_copy 100 = .ok (.aload_n 0, 1) := by decide +kernel
theorem dX7_copy_101 : decode cX7_copy 101 = .ok (.getfield 88, 3) := by decide +kernel
theorem dX7_copy_104 : decode cX7_copy 104 = .ok (.iload_n 3, 1) := by decide +kernel
theorem dX7_copy_105 : decode cX7_copy 105 = .ok (.iaload, 1) := by decide +kernel
theorem dX7_copy_106 : decode cX7_copy 106 = .ok (.i2l, 1) := by decide +kernel
theorem dX7_copy_107 : decode cX7_copy 107 = .ok (.lcmp, 1) := by decide +kernel
theorem dX7_copy_108 : decode cX7_copy 108 = .ok (.ifCond .le 9, 3) := by decide +kernel
theorem dX7_copy_111 : decode cX7_copy 111 = .ok (.aload_n 0, 1) := by decide +kernel
theorem dX7_copy_112 : decode cX7_copy 112 = .ok (.iconst 2, 1) := by decide +kernel
theorem dX7_copy_113 : decode cX7_copy 113 = .ok (.invokevirtual 197, 3) := by decide +kernel
theorem dX7_copy_116 : decode cX7_copy 116 = .ok (.ireturn, 1) := by decide +kernel
theorem dX7_copy_117 : decode cX7_copy 117 = .ok (.iconst 0, 1) := by decide +kernel
theorem dX7_copy_118 : decode cX7_copy 118 = .ok (.istore 6, 2) := by decide +kernel
theorem dX7_copy_120 : decode cX7_copy 120 = .ok (.iload 6, 2) := by decide +kernel
theorem dX7_copy_122 : decode cX7_copy 122 = .ok (.iload 5, 2) := by decide +kernel
theorem dX7_copy_124 : decode cX7_copy 124 = .ok (.if_icmp .ge 30, 3) := by decide +kernel
theorem dX7_copy_127 : decode cX7_copy 127 = .ok (.aload_n 0, 1) := by decide +kernel
theorem dX7_copy_128 : decode cX7_copy 128 = .ok (.getfield 94, 3) := by decide +kernel
theorem dX7_copy_131 : decode cX7_copy 131 = .ok (.iload 6, 2) := by decide +kernel
theorem dX7_copy_133 : decode cX7_copy 133 = .ok (.aload_n 0, 1) := by decide +kernel
theorem dX7_copy_134 : decode cX7_copy 134 = .ok (.getfield 91, 3) := by decide +kernel
theorem dX7_copy_137 : decode cX7_copy 137 = .ok (.bipush 60, 2) := by decide +kernel
theorem dX7_copy_139 : decode cX7_copy 139 = .ok (.iload_n 1, 1) := by decide +kernel
theorem dX7_copy_140 : decode cX7_copy 140 = .ok (.imul, 1) := by decide +kernel
theorem dX7_copy_141 : decode cX7_copy 141 = .ok (.iload_n 2, 1) := by decide +kernel
theorem dX7_copy_142 : decode cX7_copy 142 = .ok (.iadd, 1) := by decide +kernel
theorem dX7_copy_143 : decode cX7_copy 143 = .ok (.iload 6, 2) := by decide +kernel
theorem dX7_copy_145 : decode cX7_copy 145 = .ok (.iadd, 1) := by decide +kernel
theorem dX7_copy_146 : decode cX7_copy 146 = .ok (.iaload, 1) := by decide +kernel
theorem dX7_copy_147 : decode cX7_copy 147 = .ok (.iastore, 1) := by decide +kernel
theorem dX7_copy_148 : decode cX7_copy 148 = .ok (.iinc 6 1, 3) := by decide +kernel
theorem dX7_copy_151 : decode cX7_copy 151 = .ok (.goto (-31), 3) := by decide +kernel
theorem dX7_copy_154 : decode cX7_copy 154 = .ok (.iconst 0, 1) := by decide +kernel
theorem dX7_copy_155 : decode cX7_copy 155 = .ok (.istore 6, 2) := by decide +kernel
theorem dX7_copy_157 : decode cX7_copy 157 = .ok (.iload 6, 2) := by decide +kernel
theorem dX7_copy_159 : decode cX7_copy 159 = .ok (.iload 5, 2) := by decide +kernel
theorem dX7_copy_161 : decode cX7_copy 161 = .ok (.if_icmp .ge 31, 3) := by decide +kernel
theorem dX7_copy_164 : decode cX7_copy 164 = .ok (.aload_n 0, 1) := by decide +kernel
theorem dX7_copy_165 : decode cX7_copy 165 = .ok (.getfield 91, 3) := by decide +kernel
theorem dX7_copy_168 : decode cX7_copy 168 = .ok (.bipush 60, 2) := by decide +kernel
theorem dX7_copy_170 : decode cX7_copy 170 = .ok (.iload_n 3, 1) := by decide +kernel
theorem dX7_copy_171 : decode cX7_copy 171 = .ok (.imul, 1) := by decide +kernel
theorem dX7_copy_172 : decode cX7_copy 172 = .ok (.iload 4, 2) := by decide +kernel
theorem dX7_copy_174 : decode cX7_copy 174 = .ok (.iadd, 1) := by decide +kernel
theorem dX7_copy_175 : decode cX7_copy 175 = .ok (.iload 6, 2) := by decide +kernel
theorem dX7_copy_177 : decode cX7_copy 177 = .ok (.iadd, 1) := by decide +kernel
theorem dX7_copy_178 : decode cX7_copy 178 = .ok (.aload_n 0, 1) := by decide +kernel
theorem dX7_copy_179 : decode cX7_copy 179 = .ok (.getfield 94, 3) := by decide +kernel
theorem dX7_copy_182 : decode cX7_copy 182 = .ok (.iload 6, 2) := by decide +kernel
theorem dX7_copy_184 : decode cX7_copy 184 = .ok (.iaload, 1) := by decide +kernel
theorem dX7_copy_185 : decode cX7_copy 185 = .ok (.iastore, 1) := by decide +kernel
theorem dX7_copy_186 : decode cX7_copy 186 = .ok (.iinc 6 1, 3) := by decide +kernel
theorem dX7_copy_189 : decode cX7_copy 189 = .ok (.goto (-32), 3) := by decide +kernel
theorem dX7_copy_192 : decode cX7_copy 192 = .ok (.iconst 1, 1) := by decide +kernel
theorem dX7_copy_193 : decode cX7_copy 193 = .ok (.ireturn, 1) := by decide +kernel
theorem dX7_write_0 : decode cX7_write 0 = .ok (.iload_n 1, 1) := by decide +kernel
theorem dX7_write_1 : decode cX7_write 1 = .ok (.invokestatic 110, 3) := by decide +kernel
theorem dX7_write_4 : decode cX7_write 4 = .ok (.ifCond .eq 10, 3) := by decide +kernel
theorem dX7_write_7 : decode cX7_write 7 = .ok (.iload_n 2, 1) := by decide +kernel
theorem dX7_write_8 : decode cX7_write 8 = .ok (.invokestatic 194, 3) := by decide +kernel
theorem dX7_write_11 : decode cX7_write 11 = .ok (.ifCond .ne 6, 3) := by decide +kernel
theorem dX7_write_14 : decode cX7_write 14 = .ok (.bipush (-2), 2) := by decide +kernel
theorem dX7_write_16 : decode cX7_write 16 = .ok (.ireturn, 1) := by decide +kernel
theorem dX7_write_17 : decode cX7_write 17 = .ok (.aload_n 0, 1) := by decide +kernel
theorem dX7_write_18 : decode cX7_write 18 = .ok (.getfield 82, 3) := by decide +kernel
theorem dX7_write_21 : decode cX7_write 21 = .ok (.iload_n 2, 1) := by decide +kernel
theorem dX7_write_22 : decode cX7_write 22 = .ok (.baload, 1) := by decide +kernel
theorem dX7_write_23 : decode cX7_write 23 = .ok (.ifCond .ne 9, 3) := by decide +kernel
theorem dX7_write_26 : decode cX7_write 26 = .ok (.aload_n 0, 1) := by decide +kernel
theorem dX7_write_27 : decode cX7_write 27 = .ok (.iconst 1, 1) := by decide +kernel
theorem dX7_write_28 : decode cX7_write 28 = .ok (.invokevirtual 197, 3) := by decide +kernel
theorem dX7_write_31 : decode cX7_write 31 = .ok (.ireturn, 1) := by decide +kernel
theorem dX7_write_32 : decode cX7_write 32 = .ok (.aload_n 0, 1) := by decide +kernel
theorem dX7_write_33 : decode cX7_write 33 = .ok (.iload_n 1, 1) := by decide +kernel
theorem dX7_write_34 : decode cX7_write 34 = .ok (.invokevirtual 147, 3) := by decide +kernel
theorem dX7_write_37 : decode cX7_write 37 = .ok (.iconst (-1), 1) := by decide +kernel
theorem dX7_write_38 : decode cX7_write 38 = .ok (.if_icmp .eq 6, 3) := by decide +kernel
theorem dX7_write_41 : decode cX7_write 41 = .ok (.bipush (-3), 2) := by decide +kernel
theorem dX7_write_43 : decode cX7_write 43 = .ok (.ireturn, 1) := by decide +kernel
theorem dX7_write_44 : decode cX7_write 44 = .ok (.iconst 0, 1) := by decide +kernel
theorem dX7_write_45 : decode cX7_write 45 = .ok (.istore_n 3, 1) := by decide +kernel
theorem dX7_write_46 : decode cX7_write 46 = .ok (.iload_n 3, 1) := by decide +kernel
theorem dX7_write_47 : decode cX7_write 47 = .ok (.bipush 24, 2) := by decide +kernel
theorem dX7_write_49 : decode cX7_write 49 = .ok (.if_icmp .ge 31, 3) := by decide +kernel
theorem dX7_write_52 : decode cX7_write 52 = .ok (.iload_n 3, 1) := by decide +kernel
theorem dX7_write_53 : decode cX7_write 53 = .ok (.aload_n 0, 1) := by decide +kernel
theorem dX7_write_54 : decode cX7_write 54 = .ok (.getfield 88, 3) := by decide +kernel
theorem dX7_write_57 : decode cX7_write 57 = .ok (.iload_n 2, 1) := by decide +kernel
theorem dX7_write_58 : decode cX7_write 58 = .ok (.iaload, 1) := by decide +kernel
theorem dX7_write_59 : decode cX7_write 59 = .ok (.if_icmp .ge 21, 3) := by decide +kernel
theorem dX7_write_62 : decode cX7_write 62 = .ok (.aload_n 0, 1) := by decide +kernel
theorem dX7_write_63 : decode cX7_write 63 = .ok (.iload_n 2, 1) := by decide +kernel
theorem dX7_write_64 : decode cX7_write 64 = .ok (.iload_n 3, 1) := by decide +kernel
theorem dX7_write_65 : decode cX7_write 65 = .ok (.aload_n 0, 1) := by decide +kernel
theorem dX7_write_66 : decode cX7_write 66 = .ok (.iload_n 3, 1) := by decide +kernel
theorem dX7_write_67 : decode cX7_write 67 = .ok (.iload_n 1, 1) := by decide +kernel
theorem dX7_write_68 : decode cX7_write 68 = .ok (.invokevirtual 284, 3) := by decide +kernel
theorem dX7_write_71 : decode cX7_write 71 = .ok (.invokevirtual 297, 3) := by decide +kernel
theorem dX7_write_74 : decode cX7_write 74 = .ok (.iinc 3 1, 3) := by decide +kernel
theorem dX7_write_77 : decode cX7_write 77 = .ok (.goto (-31), 3) := by decide +kernel
theorem dX7_write_80 : decode cX7_write 80 = .ok (.iload_n 3, 1) := by decide +kernel
theorem dX7_write_81 : decode cX7_write 81 = .ok (.ireturn, 1) := by decide +kernel
theorem dX7_knownMany_0 : decode cX7_knownMany 0 = .ok (.iconst 0, 1) := by decide +kernel
theorem dX7_knownMany_1 : decode cX7_knownMany 1 = .ok (.istore_n 2, 1) := by decide +kernel
theorem dX7_knownMany_2 : decode cX7_knownMany 2 = .ok (.iconst 0, 1) := by decide +kernel
theorem dX7_knownMany_3 : decode cX7_knownMany 3 = .ok (.istore_n 3, 1) := by decide +kernel
theorem dX7_knownMany_4 : decode cX7_knownMany 4 = .ok (.iload_n 3, 1) := by decide +kernel
theorem dX7_knownMany_5 : decode cX7_knownMany 5 = .ok (.aload_n 0, 1) := by decide +kernel
theorem dX7_knownMany_6 : decode cX7_knownMany 6 = .ok (.getfield 187, 3) := by decide +kernel
theorem dX7_knownMany_9 : decode cX7_knownMany 9 = .ok (.if_icmp .ge 39, 3) := by decide +kernel
theorem dX7_knownMany_12 : decode cX7_knownMany 12 = .ok (.iload_n 2, 1) := by decide +kernel
theorem dX7_knownMany_13 : decode cX7_knownMany 13 = .ok (.aload_n 0, 1) := by decide +kernel
theorem dX7_knownMany_14 : decode cX7_knownMany 14 = .ok (.iload_n 3, 1) := by decide +kernel
theorem dX7_knownMany_15 : decode cX7_knownMany 15 = .ok (.invokevirtual 203, 3) := by decide +kernel
theorem dX7_knownMany_18 : decode cX7_knownMany 18 = .ok (.ifCond .eq 21, 3) := by decide +kernel
theorem dX7_knownMany_21 : decode cX7_knownMany 21 = .ok (.iload_n 1, 1) := by decide +kernel
theorem dX7_knownMany_22 : decode cX7_knownMany 22 = .ok (.ifCond .eq 13, 3) := by decide +kernel
theorem dX7_knownMany_25 : decode cX7_knownMany 25 = .ok (.aload_n 0, 1) := by decide +kernel
theorem dX7_knownMany_26 : decode cX7_knownMany 26 = .ok (.getfield 67, 3) := by decide +kernel
theorem dX7_knownMany_29 : decode cX7_knownMany 29 = .ok (.iload_n 3, 1) := by decide +kernel
theorem dX7_knownMany_30 : decode cX7_knownMany 30 = .ok (.iaload, 1) := by decide +kernel
theorem dX7_knownMany_31 : decode cX7_knownMany 31 = .ok (.iconst 1, 1) := by decide +kernel
theorem dX7_knownMany_32 : decode cX7_knownMany 32 = .ok (.if_icmp .ne 7, 3) := by decide +kernel
theorem dX7_knownMany_35 : decode cX7_knownMany 35 = .ok (.iconst 1, 1) := by decide +kernel
theorem dX7_knownMany_36 : decode cX7_knownMany 36 = .ok (.goto 4, 3) := by decide +kernel
theorem dX7_knownMany_39 : decode cX7_knownMany 39 = .ok (.iconst 0, 1) := by decide +kernel
theorem dX7_knownMany_40 : decode cX7_knownMany 40 = .ok (.iadd, 1) := by decide +kernel
theorem dX7_knownMany_41 : decode cX7_knownMany 41 = .ok (.istore_n 2, 1) := by decide +kernel
theorem dX7_knownMany_42 : decode cX7_knownMany 42 = .ok (.iinc 3 1, 3) := by decide +kernel
theorem dX7_knownMany_45 : decode cX7_knownMany 45 = .ok (.goto (-41), 3) := by decide +kernel
theorem dX7_knownMany_48 : decode cX7_knownMany 48 = .ok (.iload_n 2, 1) := by decide +kernel
theorem dX7_knownMany_49 : decode cX7_knownMany 49 = .ok (.ireturn, 1) := by decide +kernel
theorem dX7_count_0 : decode cX7_count 0 = .ok (.iload_n 1, 1) := by decide +kernel
theorem dX7_count_1 : decode cX7_count 1 = .ok (.tableswitch 121 0 8 #[51, 56, 61, 67, 73, 101, 106, 111, 116], 51) := by decide +kernel
theorem dX7_count_52 : decode cX7_count 52 = .ok (.aload_n 0, 1) := by decide +kernel
theorem dX7_count_53 : decode cX7_count 53 = .ok (.getfield 178, 3) := by decide +kernel
theorem dX7_count_56 : decode cX7_count 56 = .ok (.ireturn, 1) := by decide +kernel
theorem dX7_count_57 : decode cX7_count 57 = .ok (.aload_n 0, 1) := by decide +kernel
theorem dX7_count_58 : decode cX7_count 58 = .ok (.getfield 187, 3) := by decide +kernel
theorem dX7_count_61 : decode cX7_count 61 = .ok (.ireturn, 1) := by decide +kernel
theorem dX7_count_62 : decode cX7_count 62 = .ok (.aload_n 0, 1) := by decide +kernel
theorem dX7_count_63 : decode cX7_count 63 = .ok (.iconst 0, 1) := by decide +kernel
theorem dX7_count_64 : decode cX7_count 64 = .ok (.invokevirtual 302, 3) := by decide +kernel
theorem dX7_count_67 : decode cX7_count 67 = .ok (.ireturn, 1) := by decide +kernel
theorem dX7_count_68 : decode cX7_count 68 = .ok (.aload_n 0, 1) := by decide +kernel
theorem dX7_count_69 : decode cX7_count 69 = .ok (.iconst 1, 1) := by decide +kernel
theorem dX7_count_70 : decode cX7_count 70 = .ok (.invokevirtual 302, 3) := by decide +kernel
theorem dX7_count_73 : decode cX7_count 73 = .ok (.ireturn, 1) := by decide +kernel
theorem dX7_count_74 : decode cX7_count 74 = .ok (.aload_n 0, 1) := by decide +kernel
theorem dX7_count_75 : decode cX7_count 75 = .ok (.getfield 13, 3) := by decide +kernel
theorem dX7_count_78 : decode cX7_count 78 = .ok (.iconst 0, 1) := by decide +kernel
theorem dX7_count_79 : decode cX7_count 79 = .ok (.iaload, 1) := by decide +kernel
theorem dX7_count_80 : decode cX7_count 80 = .ok (.aload_n 0, 1) := by decide +kernel
theorem dX7_count_81 : decode cX7_count 81 = .ok (.getfield 13, 3) := by decide +kernel
theorem dX7_count_84 : decode cX7_count 84 = .ok (.iconst 1, 1) := by decide +kernel
theorem dX7_count_85 : decode cX7_count 85 = .ok (.iaload, 1) := by decide +kernel
theorem dX7_count_86 : decode cX7_count 86 = .ok (.iadd, 1) := by decide +kernel
theorem dX7_count_87 : decode cX7_count 87 = .ok (.aload_n 0, 1) := by decide +kernel
theorem dX7_count_88 : decode cX7_count 88 = .ok (.getfield 13, 3) := by decide +kernel
theorem dX7_count_91 : decode cX7_count 91 = .ok (.iconst 2, 1) := by decide +kernel
theorem dX7_count_92 : decode cX7_count 92 = .ok (.iaload, 1) := by decide +kernel
theorem dX7_count_93 : decode cX7_count 93 = .ok (.iadd, 1) := by decide +kernel
theorem dX7_count_94 : decode cX7_count 94 = .ok (.aload_n 0, 1) := by decide +kernel
theorem dX7_count_95 : decode cX7_count 95 = .ok (.getfield 13, 3) := by decide +kernel
theorem dX7_count_98 : decode cX7_count 98 = .ok (.iconst 3, 1) := by decide +kernel
theorem dX7_count_99 : decode cX7_count 99 = .ok (.iaload, 1) := by decide +kernel
theorem dX7_count_100 : decode cX7_count 100 = .ok (.iadd, 1) := by decide +kernel
theorem dX7_count_101 : decode cX7_count 101 = .ok (.ireturn, 1) := by decide +kernel
theorem dX7_count_102 : decode cX7_count 102 = .ok (.aload_n 0, 1) := by decide +kernel
theorem dX7_count_103 : decode cX7_count 103 = .ok (.getfield 42, 3) := by decide +kernel
theorem dX7_count_106 : decode cX7_count 106 = .ok (.ireturn, 1) := by decide +kernel
theorem dX7_count_107 : decode cX7_count 107 = .ok (.aload_n 0, 1) := by decide +kernel
theorem dX7_count_108 : decode cX7_count 108 = .ok (.getfield 79, 3) := by decide +kernel
theorem dX7_count_111 : decode cX7_count 111 = .ok (.ireturn, 1) := by decide +kernel
theorem dX7_count_112 : decode cX7_count 112 = .ok (.aload_n 0, 1) := by decide +kernel
theorem dX7_count_113 : decode cX7_count 113 = .ok (.getfield 55, 3) := by decide +kernel
theorem dX7_count_116 : decode cX7_count 116 = .ok (.ireturn, 1) := by decide +kernel
theorem dX7_count_117 : decode cX7_count 117 = .ok (.aload_n 0, 1) := by decide +kernel
theorem dX7_count_118 : decode cX7_count 118 = .ok (.getfield 291, 3) := by decide +kernel
theorem dX7_count_121 : decode cX7_count 121 = .ok (.ireturn, 1) := by decide +kernel
theorem dX7_count_122 : decode cX7_count 122 = .ok (.bipush (-2), 2) := by decide +kernel
theorem dX7_count_124 : decode cX7_count 124 = .ok (.ireturn, 1) := by decide +kernel
theorem dX7_digest_0 : decode cX7_digest 0 = .ok (.ldc2_w 306, 3) := by decide +kernel
theorem dX7_digest_3 : decode cX7_digest 3 = .ok (.lstore_n 1, 1) := by decide +kernel
theorem dX7_digest_4 : decode cX7_digest 4 = .ok (.iconst 0, 1) := by decide +kernel
theorem dX7_digest_5 : decode cX7_digest 5 = .ok (.istore_n 3, 1) := by decide +kernel
theorem dX7_digest_6 : decode cX7_digest 6 = .ok (.iload_n 3, 1) := by decide +kernel
theorem dX7_digest_7 : decode cX7_digest 7 = .ok (.bipush 8, 2) := by decide +kernel
theorem dX7_digest_9 : decode cX7_digest 9 = .ok (.if_icmp .ge 22, 3) := by decide +kernel
theorem dX7_digest_12 : decode cX7_digest 12 = .ok (.ldc2_w 308, 3) := by decide +kernel
theorem dX7_digest_15 : decode cX7_digest 15 = .ok (.lload_n 1, 1) := by decide +kernel
theorem dX7_digest_16 : decode cX7_digest 16 = .ok (.lmul, 1) := by decide +kernel
theorem dX7_digest_17 : decode cX7_digest 17 = .ok (.aload_n 0, 1) := by decide +kernel
theorem dX7_digest_18 : decode cX7_digest 18 = .ok (.iload_n 3, 1) := by decide +kernel
theorem dX7_digest_19 : decode cX7_digest 19 = .ok (.invokevirtual 310, 3) := by decide +kernel
theorem dX7_digest_22 : decode cX7_digest 22 = .ok (.i2l, 1) := by decide +kernel
theorem dX7_digest_23 : decode cX7_digest 23 = .ok (.ladd, 1) := by decide +kernel
theorem dX7_digest_24 : decode cX7_digest 24 = .ok (.lstore_n 1, 1) := by decide +kernel
theorem dX7_digest_25 : decode cX7_digest 25 = .ok (.iinc 3 1, 3) := by decide +kernel
theorem dX7_digest_28 : decode cX7_digest 28 = .ok (.goto (-22), 3) := by decide +kernel
theorem dX7_digest_31 : decode cX7_digest 31 = .ok (.iconst 0, 1) := by decide +kernel
theorem dX7_digest_32 : decode cX7_digest 32 = .ok (.istore_n 3, 1) := by decide +kernel
theorem dX7_digest_33 : decode cX7_digest 33 = .ok (.iload_n 3, 1) := by decide +kernel
theorem dX7_digest_34 : decode cX7_digest 34 = .ok (.iconst 4, 1) := by decide +kernel
theorem dX7_digest_35 : decode cX7_digest 35 = .ok (.if_icmp .ge 77, 3) := by decide +kernel
theorem dX7_digest_38 : decode cX7_digest 38 = .ok (.ldc2_w 308, 3) := by decide +kernel
theorem dX7_digest_41 : decode cX7_digest 41 = .ok (.lload_n 1, 1) := by decide +kernel
theorem dX7_digest_42 : decode cX7_digest 42 = .ok (.lmul, 1) := by decide +kernel
theorem dX7_digest_43 : decode cX7_digest 43 = .ok (.aload_n 0, 1) := by decide +kernel
theorem dX7_digest_44 : decode cX7_digest 44 = .ok (.iload_n 3, 1) := by decide +kernel
theorem dX7_digest_45 : decode cX7_digest 45 = .ok (.invokevirtual 147, 3) := by decide +kernel
theorem dX7_digest_48 : decode cX7_digest 48 = .ok (.i2l, 1) := by decide +kernel
theorem dX7_digest_49 : decode cX7_digest 49 = .ok (.ladd, 1) := by decide +kernel
theorem dX7_digest_50 : decode cX7_digest 50 = .ok (.lstore_n 1, 1) := by decide +kernel
theorem dX7_digest_51 : decode cX7_digest 51 = .ok (.iconst 0, 1) := by decide +kernel
theorem dX7_digest_52 : decode cX7_digest 52 = .ok (.istore 4, 2) := by decide +kernel
theorem dX7_digest_54 : decode cX7_digest 54 = .ok (.iload 4, 2) := by decide +kernel
theorem dX7_digest_56 : decode cX7_digest 56 = .ok (.iconst 4, 1) := by decide +kernel
theorem dX7_digest_57 : decode cX7_digest 57 = .ok (.if_icmp .ge 36, 3) := by decide +kernel
theorem dX7_digest_60 : decode cX7_digest 60 = .ok (.ldc2_w 308, 3) := by decide +kernel
theorem dX7_digest_63 : decode cX7_digest 63 = .ok (.lload_n 1, 1) := by decide +kernel
theorem dX7_digest_64 : decode cX7_digest 64 = .ok (.lmul, 1) := by decide +kernel
theorem dX7_digest_65 : decode cX7_digest 65 = .ok (.aload_n 0, 1) := by decide +kernel
theorem dX7_digest_66 : decode cX7_digest 66 = .ok (.iload_n 3, 1) := by decide +kernel
theorem dX7_digest_67 : decode cX7_digest 67 = .ok (.iload 4, 2) := by decide +kernel
theorem dX7_digest_69 : decode cX7_digest 69 = .ok (.iconst 2, 1) := by decide +kernel
theorem dX7_digest_70 : decode cX7_digest 70 = .ok (.if_icmp .ge 7, 3) := by decide +kernel
theorem dX7_digest_73 : decode cX7_digest 73 = .ok (.iconst 1, 1) := by decide +kernel
theorem dX7_digest_74 : decode cX7_digest 74 = .ok (.goto 4, 3) := by decide +kernel
theorem dX7_digest_77 : decode cX7_digest 77 = .ok (.iconst 0, 1) := by decide +kernel
theorem dX7_digest_78 : decode cX7_digest 78 = .ok (.iload 4, 2) := by decide +kernel
theorem dX7_digest_80 : decode cX7_digest 80 = .ok (.iconst 2, 1) := by decide +kernel
theorem dX7_digest_81 : decode cX7_digest 81 = .ok (.irem, 1) := by decide +kernel
theorem dX7_digest_82 : decode cX7_digest 82 = .ok (.invokevirtual 171, 3) := by decide +kernel
theorem dX7_digest_85 : decode cX7_digest 85 = .ok (.ladd, 1) := by decide +kernel
theorem dX7_digest_86 : decode cX7_digest 86 = .ok (.lstore_n 1, 1) := by decide +kernel
theorem dX7_digest_87 : decode cX7_digest 87 = .ok (.iinc 4 1, 3) := by decide +kernel
theorem dX7_digest_90 : decode cX7_digest 90 = .ok (.goto (-36), 3) := by decide +kernel
theorem dX7_digest_93 : decode cX7_digest 93 = .ok (.ldc2_w 308, 3) := by decide +kernel
theorem dX7_digest_96 : decode cX7_digest 96 = .ok (.lload_n 1, 1) := by decide +kernel
theorem dX7_digest_97 : decode cX7_digest 97 = .ok (.lmul, 1) := by decide +kernel
theorem dX7_digest_98 : decode cX7_digest 98 = .ok (.aload_n 0, 1) := by decide +kernel
theorem dX7_digest_99 : decode cX7_digest 99 = .ok (.iload_n 3, 1) := by decide +kernel
theorem dX7_digest_100 : decode cX7_digest 100 = .ok (.invokevirtual 175, 3) := by decide +kernel
theorem dX7_digest_103 : decode cX7_digest 103 = .ok (.i2l, 1) := by decide +kernel
theorem dX7_digest_104 : decode cX7_digest 104 = .ok (.ladd, 1) := by decide +kernel
theorem dX7_digest_105 : decode cX7_digest 105 = .ok (.lstore_n 1, 1) := by decide +kernel
theorem dX7_digest_106 : decode cX7_digest 106 = .ok (.iinc 3 1, 3) := by decide +kernel
theorem dX7_digest_109 : decode cX7_digest 109 = .ok (.goto (-76), 3) := by decide +kernel
theorem dX7_digest_112 : decode cX7_digest 112 = .ok (.iconst 0, 1) := by decide +kernel
theorem dX7_digest_113 : decode cX7_digest 113 = .ok (.istore_n 3, 1) := by decide +kernel
theorem dX7_digest_114 : decode cX7_digest 114 = .ok (.iload_n 3, 1) := by decide +kernel
theorem dX7_digest_115 : decode cX7_digest 115 = .ok (.iconst 4, 1) := by decide +kernel
theorem dX7_digest_116 : decode cX7_digest 116 = .ok (.if_icmp .ge 70, 3) := by decide +kernel
theorem dX7_digest_119 : decode cX7_digest 119 = .ok (.iconst 0, 1) := by decide +kernel
theorem dX7_digest_120 : decode cX7_digest 120 = .ok (.istore 4, 2) := by decide +kernel
theorem dX7_digest_122 : decode cX7_digest 122 = .ok (.iload 4, 2) := by decide +kernel
theorem dX7_digest_124 : decode cX7_digest 124 = .ok (.iconst 4, 1) := by decide +kernel
theorem dX7_digest_125 : decode cX7_digest 125 = .ok (.if_icmp .ge 55, 3) := by decide +kernel
theorem dX7_digest_128 : decode cX7_digest 128 = .ok (.aload_n 0, 1) := by decide +kernel
theorem dX7_digest_129 : decode cX7_digest 129 = .ok (.iload_n 3, 1) := by decide +kernel
theorem dX7_digest_130 : decode cX7_digest 130 = .ok (.iload 4, 2) := by decide +kernel
theorem dX7_digest_132 : decode cX7_digest 132 = .ok (.invokevirtual 216, 3) := by decide +kernel
theorem dX7_digest_135 : decode cX7_digest 135 = .ok (.ldc2_w 308, 3) := by decide +kernel
theorem dX7_digest_138 : decode cX7_digest 138 = .ok (.lload_n 1, 1) := by decide +kernel
theorem dX7_digest_139 : decode cX7_digest 139 = .ok (.lmul, 1) := by decide +kernel
theorem dX7_digest_140 : decode cX7_digest 140 = .ok (.aload_n 0, 1) := by decide +kernel
theorem dX7_digest_141 : decode cX7_digest 141 = .ok (.getfield 206, 3) := by decide +kernel
theorem dX7_digest_144 : decode cX7_digest 144 = .ok (.i2l, 1) := by decide +kernel
theorem dX7_digest_145 : decode cX7_digest 145 = .ok (.ladd, 1) := by decide +kernel
theorem dX7_digest_146 : decode cX7_digest 146 = .ok (.lstore_n 1, 1) := by decide +kernel
theorem dX7_digest_147 : decode cX7_digest 147 = .ok (.ldc2_w 308, 3) := by decide +kernel
theorem dX7_digest_150 : decode cX7_digest 150 = .ok (.lload_n 1, 1) := by decide +kernel
theorem dX7_digest_151 : decode cX7_digest 151 = .ok (.lmul, 1) := by decide +kernel
theorem dX7_digest_152 : decode cX7_digest 152 = .ok (.aload_n 0, 1) := by decide +kernel
theorem dX7_digest_153 : decode cX7_digest 153 = .ok (.getfield 209, 3) := by decide +kernel
theorem dX7_digest_156 : decode cX7_digest 156 = .ok (.i2l, 1) := by decide +kernel
theorem dX7_digest_157 : decode cX7_digest 157 = .ok (.ladd, 1) := by decide +kernel
theorem dX7_digest_158 : decode cX7_digest 158 = .ok (.lstore_n 1, 1) := by decide +kernel
theorem dX7_digest_159 : decode cX7_digest 159 = .ok (.ldc2_w 308, 3) := by decide +kernel
theorem dX7_digest_162 : decode cX7_digest 162 = .ok (.lload_n 1, 1) := by decide +kernel
theorem dX7_digest_163 : decode cX7_digest 163 = .ok (.lmul, 1) := by decide +kernel
theorem dX7_digest_164 : decode cX7_digest 164 = .ok (.aload_n 0, 1) := by decide +kernel
theorem dX7_digest_165 : decode cX7_digest 165 = .ok (.iload_n 3, 1) := by decide +kernel
theorem dX7_digest_166 : decode cX7_digest 166 = .ok (.iload 4, 2) := by decide +kernel
theorem dX7_digest_168 : decode cX7_digest 168 = .ok (.invokevirtual 248, 3) := by decide +kernel
theorem dX7_digest_171 : decode cX7_digest 171 = .ok (.i2l, 1) := by decide +kernel
theorem dX7_digest_172 : decode cX7_digest 172 = .ok (.ladd, 1) := by decide +kernel
theorem dX7_digest_173 : decode cX7_digest 173 = .ok (.lstore_n 1, 1) := by decide +kernel
theorem dX7_digest_174 : decode cX7_digest 174 = .ok (.iinc 4 1, 3) := by decide +kernel
theorem dX7_digest_177 : decode cX7_digest 177 = .ok (.goto (-55), 3) := by decide +kernel
theorem dX7_digest_180 : decode cX7_digest 180 = .ok (.iinc 3 1, 3) := by decide +kernel
theorem dX7_digest_183 : decode cX7_digest 183 = .ok (.goto (-69), 3) := by decide +kernel
theorem dX7_digest_186 : decode cX7_digest 186 = .ok (.iconst 0, 1) := by decide +kernel
theorem dX7_digest_187 : decode cX7_digest 187 = .ok (.istore_n 3, 1) := by decide +kernel
theorem dX7_digest_188 : decode cX7_digest 188 = .ok (.iload_n 3, 1) := by decide +kernel
theorem dX7_digest_189 : decode cX7_digest 189 = .ok (.bipush 24, 2) := by decide +kernel
theorem dX7_digest_191 : decode cX7_digest 191 = .ok (.if_icmp .ge 22, 3) := by decide +kernel
theorem dX7_digest_194 : decode cX7_digest 194 = .ok (.ldc2_w 308, 3) := by decide +kernel
theorem dX7_digest_197 : decode cX7_digest 197 = .ok (.lload_n 1, 1) := by decide +kernel
theorem dX7_digest_198 : decode cX7_digest 198 = .ok (.lmul, 1) := by decide +kernel
theorem dX7_digest_199 : decode cX7_digest 199 = .ok (.aload_n 0, 1) := by decide +kernel
theorem dX7_digest_200 : decode cX7_digest 200 = .ok (.iload_n 3, 1) := by decide +kernel
theorem dX7_digest_201 : decode cX7_digest 201 = .ok (.iconst 0, 1) := by decide +kernel
theorem dX7_digest_202 : decode cX7_digest 202 = .ok (.invokevirtual 274, 3) := by decide +kernel
theorem dX7_digest_205 : decode cX7_digest 205 = .ok (.ladd, 1) := by decide +kernel
theorem dX7_digest_206 : decode cX7_digest 206 = .ok (.lstore_n 1, 1) := by decide +kernel
theorem dX7_digest_207 : decode cX7_digest 207 = .ok (.iinc 3 1, 3) := by decide +kernel
theorem dX7_digest_210 : decode cX7_digest 210 = .ok (.goto (-22), 3) := by decide +kernel
theorem dX7_digest_213 : decode cX7_digest 213 = .ok (.lload_n 1, 1) := by decide +kernel
theorem dX7_digest_214 : decode cX7_digest 214 = .ok (.lreturn, 1) := by decide +kernel
theorem dJ7_fill_d0a16_0 : decode cJ7_fill_d0a16 0 = .ok (.iconst 0, 1) := by decide +kernel
theorem dJ7_fill_d0a16_1 : decode cJ7_fill_d0a16 1 = .ok (.istore_n 3, 1) := by decide +kernel
theorem dJ7_fill_d0a16_2 : decode cJ7_fill_d0a16 2 = .ok (.aload_n 0, 1) := by decide +kernel
theorem dJ7_fill_d0a16_3 : decode cJ7_fill_d0a16 3 = .ok (.arraylength, 1) := by decide +kernel
theorem dJ7_fill_d0a16_4 : decode cJ7_fill_d0a16 4 = .ok (.istore 4, 2) := by decide +kernel
theorem dJ7_fill_d0a16_6 : decode cJ7_fill_d0a16 6 = .ok (.iload_n 3, 1) := by decide +kernel
theorem dJ7_fill_d0a16_7 : decode cJ7_fill_d0a16 7 = .ok (.iload 4, 2) := by decide +kernel
theorem dJ7_fill_d0a16_9 : decode cJ7_fill_d0a16 9 = .ok (.if_icmp .ge 13, 3) := by decide +kernel
theorem dJ7_fill_d0a16_12 : decode cJ7_fill_d0a16 12 = .ok (.aload_n 0, 1) := by decide +kernel
theorem dJ7_fill_d0a16_13 : decode cJ7_fill_d0a16 13 = .ok (.iload_n 3, 1) := by decide +kernel
theorem dJ7_fill_d0a16_14 : decode cJ7_fill_d0a16 14 = .ok (.lload_n 1, 1) := by decide +kernel
theorem dJ7_fill_d0a16_15 : decode cJ7_fill_d0a16 15 = .ok (.lastore, 1) := by decide +kernel
theorem dJ7_fill_d0a16_16 : decode cJ7_fill_d0a16 16 = .ok (.iinc 3 1, 3) := by decide +kernel
theorem dJ7_fill_d0a16_19 : decode cJ7_fill_d0a16 19 = .ok (.goto (-13), 3) := by decide +kernel
theorem dJ7_fill_d0a16_22 : decode cJ7_fill_d0a16 22 = .ok (.return_, 1) := by decide +kernel
theorem dJ7_fill_53178_0 : decode cJ7_fill_53178 0 = .ok (.iconst 0, 1) := by decide +kernel
theorem dJ7_fill_53178_1 : decode cJ7_fill_53178 1 = .ok (.istore_n 2, 1) := by decide +kernel
theorem dJ7_fill_53178_2 : decode cJ7_fill_53178 2 = .ok (.aload_n 0, 1) := by decide +kernel
theorem dJ7_fill_53178_3 : decode cJ7_fill_53178 3 = .ok (.arraylength, 1) := by decide +kernel
theorem dJ7_fill_53178_4 : decode cJ7_fill_53178 4 = .ok (.istore_n 3, 1) := by decide +kernel
theorem dJ7_fill_53178_5 : decode cJ7_fill_53178 5 = .ok (.iload_n 2, 1) := by decide +kernel
theorem dJ7_fill_53178_6 : decode cJ7_fill_53178 6 = .ok (.iload_n 3, 1) := by decide +kernel
theorem dJ7_fill_53178_7 : decode cJ7_fill_53178 7 = .ok (.if_icmp .ge 13, 3) := by decide +kernel
theorem dJ7_fill_53178_10 : decode cJ7_fill_53178 10 = .ok (.aload_n 0, 1) := by decide +kernel
theorem dJ7_fill_53178_11 : decode cJ7_fill_53178 11 = .ok (.iload_n 2, 1) := by decide +kernel
theorem dJ7_fill_53178_12 : decode cJ7_fill_53178 12 = .ok (.iload_n 1, 1) := by decide +kernel
theorem dJ7_fill_53178_13 : decode cJ7_fill_53178 13 = .ok (.iastore, 1) := by decide +kernel
theorem dJ7_fill_53178_14 : decode cJ7_fill_53178 14 = .ok (.iinc 2 1, 3) := by decide +kernel
theorem dJ7_fill_53178_17 : decode cJ7_fill_53178 17 = .ok (.goto (-12), 3) := by decide +kernel
theorem dJ7_fill_53178_20 : decode cJ7_fill_53178 20 = .ok (.return_, 1) := by decide +kernel
theorem dL_law_0 : decode cL_law 0 = .ok (.new 7, 3) := by decide +kernel
theorem dL_law_3 : decode cL_law 3 = .ok (.dup, 1) := by decide +kernel
theorem dL_law_4 : decode cL_law 4 = .ok (.invokespecial 9, 3) := by decide +kernel
theorem dL_law_7 : decode cL_law 7 = .ok (.astore_n 1, 1) := by decide +kernel
theorem dL_law_8 : decode cL_law 8 = .ok (.new 10, 3) := by decide +kernel
