theorem dX6_span_88 : decode cX6_span 88 = .ok (.iconst (-1), 1) := by decide +kernel
theorem dX6_span_89 : decode cX6_span 89 = .ok (.if_icmp .ne 48, 3) := by decide +kernel
theorem dX6_span_92 : decode cX6_span 92 = .ok (.iload 4, 2) := by decide +kernel
theorem dX6_span_94 : decode cX6_span 94 = .ok (.ifCond .ne 8, 3) := by decide +kernel
theorem dX6_span_97 : decode cX6_span 97 = .ok (.iload 11, 2) := by decide +kernel
theorem dX6_span_99 : decode cX6_span 99 = .ok (.goto 8, 3) := by decide +kernel
theorem dX6_span_102 : decode cX6_span 102 = .ok (.iload 9, 2) := by decide +kernel
theorem dX6_span_104 : decode cX6_span 104 = .ok (.iload 11, 2) := by decide +kernel
theorem dX6_span_106 : decode cX6_span 106 = .ok (.isub, 1) := by decide +kernel
theorem dX6_span_107 : decode cX6_span 107 = .ok (.istore 12, 2) := by decide +kernel
theorem dX6_span_109 : decode cX6_span 109 = .ok (.aload_n 0, 1) := by decide +kernel
theorem dX6_span_110 : decode cX6_span 110 = .ok (.aload 6, 2) := by decide +kernel
theorem dX6_span_112 : decode cX6_span 112 = .ok (.iload 12, 2) := by decide +kernel
theorem dX6_span_114 : decode cX6_span 114 = .ok (.invokevirtual 188, 3) := by decide +kernel
theorem dX6_span_117 : decode cX6_span 117 = .ok (.ldc2_w 196, 3) := by decide +kernel
theorem dX6_span_120 : decode cX6_span 120 = .ok (.lmul, 1) := by decide +kernel
theorem dX6_span_121 : decode cX6_span 121 = .ok (.lload 7, 2) := by decide +kernel
theorem dX6_span_123 : decode cX6_span 123 = .ok (.lcmp, 1) := by decide +kernel
theorem dX6_span_124 : decode cX6_span 124 = .ok (.ifCond .lt 7, 3) := by decide +kernel
theorem dX6_span_127 : decode cX6_span 127 = .ok (.iload 12, 2) := by decide +kernel
theorem dX6_span_129 : decode cX6_span 129 = .ok (.istore 10, 2) := by decide +kernel
theorem dX6_span_131 : decode cX6_span 131 = .ok (.iinc 11 1, 3) := by decide +kernel
theorem dX6_span_134 : decode cX6_span 134 = .ok (.goto (-55), 3) := by decide +kernel
theorem dX6_span_137 : decode cX6_span 137 = .ok (.iload 10, 2) := by decide +kernel
theorem dX6_span_139 : decode cX6_span 139 = .ok (.ireturn, 1) := by decide +kernel
theorem dX6_atLeast_0 : decode cX6_atLeast 0 = .ok (.aload_n 0, 1) := by decide +kernel
theorem dX6_atLeast_1 : decode cX6_atLeast 1 = .ok (.iload_n 1, 1) := by decide +kernel
theorem dX6_atLeast_2 : decode cX6_atLeast 2 = .ok (.iload_n 2, 1) := by decide +kernel
theorem dX6_atLeast_3 : decode cX6_atLeast 3 = .ok (.iload_n 3, 1) := by decide +kernel
theorem dX6_atLeast_4 : decode cX6_atLeast 4 = .ok (.invokevirtual 184, 3) := by decide +kernel
theorem dX6_atLeast_7 : decode cX6_atLeast 7 = .ok (.istore 4, 2) := by decide +kernel
theorem dX6_atLeast_9 : decode cX6_atLeast 9 = .ok (.iload 4, 2) := by decide +kernel
theorem dX6_atLeast_11 : decode cX6_atLeast 11 = .ok (.ifCond .eq 6, 3) := by decide +kernel
theorem dX6_atLeast_14 : decode cX6_atLeast 14 = .ok (.iload 4, 2) := by decide +kernel
theorem dX6_atLeast_16 : decode cX6_atLeast 16 = .ok (.ireturn, 1) := by decide +kernel
theorem dX6_atLeast_17 : decode cX6_atLeast 17 = .ok (.aload_n 0, 1) := by decide +kernel
theorem dX6_atLeast_18 : decode cX6_atLeast 18 = .ok (.getfield 42, 3) := by decide +kernel
theorem dX6_atLeast_21 : decode cX6_atLeast 21 = .ok (.aload_n 0, 1) := by decide +kernel
theorem dX6_atLeast_22 : decode cX6_atLeast 22 = .ok (.getfield 11, 3) := by decide +kernel
theorem dX6_atLeast_25 : decode cX6_atLeast 25 = .ok (.iload_n 2, 1) := by decide +kernel
theorem dX6_atLeast_26 : decode cX6_atLeast 26 = .ok (.aaload, 1) := by decide +kernel
theorem dX6_atLeast_27 : decode cX6_atLeast 27 = .ok (.aload_n 0, 1) := by decide +kernel
theorem dX6_atLeast_28 : decode cX6_atLeast 28 = .ok (.getfield 35, 3) := by decide +kernel
theorem dX6_atLeast_31 : decode cX6_atLeast 31 = .ok (.getfield 172, 3) := by decide +kernel
theorem dX6_atLeast_34 : decode cX6_atLeast 34 = .ok (.iload_n 3, 1) := by decide +kernel
theorem dX6_atLeast_35 : decode cX6_atLeast 35 = .ok (.invokevirtual 198, 3) := by decide +kernel
theorem dX6_atLeast_38 : decode cX6_atLeast 38 = .ok (.aload_n 0, 1) := by decide +kernel
theorem dX6_atLeast_39 : decode cX6_atLeast 39 = .ok (.getfield 42, 3) := by decide +kernel
theorem dX6_atLeast_42 : decode cX6_atLeast 42 = .ok (.aload_n 0, 1) := by decide +kernel
theorem dX6_atLeast_43 : decode cX6_atLeast 43 = .ok (.getfield 35, 3) := by decide +kernel
theorem dX6_atLeast_46 : decode cX6_atLeast 46 = .ok (.getfield 174, 3) := by decide +kernel
theorem dX6_atLeast_49 : decode cX6_atLeast 49 = .ok (.aload_n 0, 1) := by decide +kernel
theorem dX6_atLeast_50 : decode cX6_atLeast 50 = .ok (.getfield 35, 3) := by decide +kernel
theorem dX6_atLeast_53 : decode cX6_atLeast 53 = .ok (.getfield 172, 3) := by decide +kernel
theorem dX6_atLeast_56 : decode cX6_atLeast 56 = .ok (.invokevirtual 202, 3) := by decide +kernel
theorem dX6_atLeast_59 : decode cX6_atLeast 59 = .ok (.aload_n 0, 1) := by decide +kernel
theorem dX6_atLeast_60 : decode cX6_atLeast 60 = .ok (.getfield 42, 3) := by decide +kernel
theorem dX6_atLeast_63 : decode cX6_atLeast 63 = .ok (.iconst 0, 1) := by decide +kernel
theorem dX6_atLeast_64 : decode cX6_atLeast 64 = .ok (.aload_n 0, 1) := by decide +kernel
theorem dX6_atLeast_65 : decode cX6_atLeast 65 = .ok (.getfield 35, 3) := by decide +kernel
theorem dX6_atLeast_68 : decode cX6_atLeast 68 = .ok (.getfield 172, 3) := by decide +kernel
theorem dX6_atLeast_71 : decode cX6_atLeast 71 = .ok (.invokevirtual 202, 3) := by decide +kernel
theorem dX6_atLeast_74 : decode cX6_atLeast 74 = .ok (.invokestatic 206, 3) := by decide +kernel
theorem dX6_atLeast_77 : decode cX6_atLeast 77 = .ok (.ireturn, 1) := by decide +kernel
theorem dX6_away_0 : decode cX6_away 0 = .ok (.iload_n 1, 1) := by decide +kernel
theorem dX6_away_1 : decode cX6_away 1 = .ok (.invokestatic 71, 3) := by decide +kernel
theorem dX6_away_4 : decode cX6_away 4 = .ok (.ifCond .eq 17, 3) := by decide +kernel
theorem dX6_away_7 : decode cX6_away 7 = .ok (.iload_n 2, 1) := by decide +kernel
theorem dX6_away_8 : decode cX6_away 8 = .ok (.invokestatic 91, 3) := by decide +kernel
theorem dX6_away_11 : decode cX6_away 11 = .ok (.ifCond .eq 10, 3) := by decide +kernel
theorem dX6_away_14 : decode cX6_away 14 = .ok (.iload_n 3, 1) := by decide +kernel
theorem dX6_away_15 : decode cX6_away 15 = .ok (.invokestatic 91, 3) := by decide +kernel
theorem dX6_away_18 : decode cX6_away 18 = .ok (.ifCond .ne 9, 3) := by decide +kernel
theorem dX6_away_21 : decode cX6_away 21 = .ok (.bipush (-2), 2) := by decide +kernel
theorem dX6_away_23 : decode cX6_away 23 = .ok (.invokestatic 94, 3) := by decide +kernel
theorem dX6_away_26 : decode cX6_away 26 = .ok (.lreturn, 1) := by decide +kernel
theorem dX6_away_27 : decode cX6_away 27 = .ok (.aload_n 0, 1) := by decide +kernel
theorem dX6_away_28 : decode cX6_away 28 = .ok (.getfield 11, 3) := by decide +kernel
theorem dX6_away_31 : decode cX6_away 31 = .ok (.iload_n 1, 1) := by decide +kernel
theorem dX6_away_32 : decode cX6_away 32 = .ok (.aaload, 1) := by decide +kernel
theorem dX6_away_33 : decode cX6_away 33 = .ok (.astore 4, 2) := by decide +kernel
theorem dX6_away_35 : decode cX6_away 35 = .ok (.aload 4, 2) := by decide +kernel
theorem dX6_away_37 : decode cX6_away 37 = .ok (.invokevirtual 98, 3) := by decide +kernel
theorem dX6_away_40 : decode cX6_away 40 = .ok (.ifCond .ne 14, 3) := by decide +kernel
theorem dX6_away_43 : decode cX6_away 43 = .ok (.aload 4, 2) := by decide +kernel
theorem dX6_away_45 : decode cX6_away 45 = .ok (.iload_n 2, 1) := by decide +kernel
theorem dX6_away_46 : decode cX6_away 46 = .ok (.invokevirtual 210, 3) := by decide +kernel
theorem dX6_away_49 : decode cX6_away 49 = .ok (.lconst 0, 1) := by decide +kernel
theorem dX6_away_50 : decode cX6_away 50 = .ok (.lcmp, 1) := by decide +kernel
theorem dX6_away_51 : decode cX6_away 51 = .ok (.ifCond .ne 9, 3) := by decide +kernel
theorem dX6_away_54 : decode cX6_away 54 = .ok (.bipush (-3), 2) := by decide +kernel
theorem dX6_away_56 : decode cX6_away 56 = .ok (.invokestatic 94, 3) := by decide +kernel
theorem dX6_away_59 : decode cX6_away 59 = .ok (.lreturn, 1) := by decide +kernel
theorem dX6_away_60 : decode cX6_away 60 = .ok (.aload_n 0, 1) := by decide +kernel
theorem dX6_away_61 : decode cX6_away 61 = .ok (.getfield 49, 3) := by decide +kernel
theorem dX6_away_64 : decode cX6_away 64 = .ok (.aload 4, 2) := by decide +kernel
theorem dX6_away_66 : decode cX6_away 66 = .ok (.iload_n 2, 1) := by decide +kernel
theorem dX6_away_67 : decode cX6_away 67 = .ok (.invokevirtual 213, 3) := by decide +kernel
theorem dX6_away_70 : decode cX6_away 70 = .ok (.aload 4, 2) := by decide +kernel
theorem dX6_away_72 : decode cX6_away 72 = .ok (.iload_n 2, 1) := by decide +kernel
theorem dX6_away_73 : decode cX6_away 73 = .ok (.invokevirtual 210, 3) := by decide +kernel
theorem dX6_away_76 : decode cX6_away 76 = .ok (.invokevirtual 111, 3) := by decide +kernel
theorem dX6_away_79 : decode cX6_away 79 = .ok (.aload_n 0, 1) := by decide +kernel
theorem dX6_away_80 : decode cX6_away 80 = .ok (.getfield 49, 3) := by decide +kernel
theorem dX6_away_83 : decode cX6_away 83 = .ok (.iload_n 3, 1) := by decide +kernel
theorem dX6_away_84 : decode cX6_away 84 = .ok (.invokevirtual 115, 3) := by decide +kernel
theorem dX6_away_87 : decode cX6_away 87 = .ok (.lreturn, 1) := by decide +kernel
theorem dX6_given_0 : decode cX6_given 0 = .ok (.iload_n 1, 1) := by decide +kernel
theorem dX6_given_1 : decode cX6_given 1 = .ok (.invokestatic 118, 3) := by decide +kernel
theorem dX6_given_4 : decode cX6_given 4 = .ok (.ifCond .eq 10, 3) := by decide +kernel
theorem dX6_given_7 : decode cX6_given 7 = .ok (.iload_n 2, 1) := by decide +kernel
theorem dX6_given_8 : decode cX6_given 8 = .ok (.invokestatic 91, 3) := by decide +kernel
theorem dX6_given_11 : decode cX6_given 11 = .ok (.ifCond .ne 9, 3) := by decide +kernel
theorem dX6_given_14 : decode cX6_given 14 = .ok (.bipush (-2), 2) := by decide +kernel
theorem dX6_given_16 : decode cX6_given 16 = .ok (.invokestatic 94, 3) := by decide +kernel
theorem dX6_given_19 : decode cX6_given 19 = .ok (.lreturn, 1) := by decide +kernel
theorem dX6_given_20 : decode cX6_given 20 = .ok (.aload_n 0, 1) := by decide +kernel
theorem dX6_given_21 : decode cX6_given 21 = .ok (.iload_n 1, 1) := by decide +kernel
theorem dX6_given_22 : decode cX6_given 22 = .ok (.invokevirtual 216, 3) := by decide +kernel
theorem dX6_given_25 : decode cX6_given 25 = .ok (.istore_n 3, 1) := by decide +kernel
theorem dX6_given_26 : decode cX6_given 26 = .ok (.iload_n 3, 1) := by decide +kernel
theorem dX6_given_27 : decode cX6_given 27 = .ok (.ifCond .eq 18, 3) := by decide +kernel
theorem dX6_given_30 : decode cX6_given 30 = .ok (.iload_n 3, 1) := by decide +kernel
theorem dX6_given_31 : decode cX6_given 31 = .ok (.iconst (-1), 1) := by decide +kernel
theorem dX6_given_32 : decode cX6_given 32 = .ok (.if_icmp .ne 8, 3) := by decide +kernel
theorem dX6_given_35 : decode cX6_given 35 = .ok (.bipush (-3), 2) := by decide +kernel
theorem dX6_given_37 : decode cX6_given 37 = .ok (.goto 4, 3) := by decide +kernel
theorem dX6_given_40 : decode cX6_given 40 = .ok (.iload_n 3, 1) := by decide +kernel
theorem dX6_given_41 : decode cX6_given 41 = .ok (.invokestatic 94, 3) := by decide +kernel
theorem dX6_given_44 : decode cX6_given 44 = .ok (.lreturn, 1) := by decide +kernel
theorem dX6_given_45 : decode cX6_given 45 = .ok (.aload_n 0, 1) := by decide +kernel
theorem dX6_given_46 : decode cX6_given 46 = .ok (.getfield 49, 3) := by decide +kernel
theorem dX6_given_49 : decode cX6_given 49 = .ok (.iload_n 2, 1) := by decide +kernel
theorem dX6_given_50 : decode cX6_given 50 = .ok (.invokevirtual 115, 3) := by decide +kernel
theorem dX6_given_53 : decode cX6_given 53 = .ok (.lreturn, 1) := by decide +kernel
theorem dX6_has_0 : decode cX6_has 0 = .ok (.iload_n 1, 1) := by decide +kernel
theorem dX6_has_1 : decode cX6_has 1 = .ok (.invokestatic 118, 3) := by decide +kernel
theorem dX6_has_4 : decode cX6_has 4 = .ok (.ifCond .eq 21, 3) := by decide +kernel
theorem dX6_has_7 : decode cX6_has 7 = .ok (.iload_n 2, 1) := by decide +kernel
theorem dX6_has_8 : decode cX6_has 8 = .ok (.iconst 1, 1) := by decide +kernel
theorem dX6_has_9 : decode cX6_has 9 = .ok (.if_icmp .lt 16, 3) := by decide +kernel
theorem dX6_has_12 : decode cX6_has 12 = .ok (.iload_n 2, 1) := by decide +kernel
theorem dX6_has_13 : decode cX6_has 13 = .ok (.bipush 99, 2) := by decide +kernel
theorem dX6_has_15 : decode cX6_has 15 = .ok (.if_icmp .gt 10, 3) := by decide +kernel
theorem dX6_has_18 : decode cX6_has 18 = .ok (.iload_n 3, 1) := by decide +kernel
theorem dX6_has_19 : decode cX6_has 19 = .ok (.invokestatic 91, 3) := by decide +kernel
theorem dX6_has_22 : decode cX6_has 22 = .ok (.ifCond .ne 9, 3) := by decide +kernel
theorem dX6_has_25 : decode cX6_has 25 = .ok (.bipush (-2), 2) := by decide +kernel
theorem dX6_has_27 : decode cX6_has 27 = .ok (.invokestatic 94, 3) := by decide +kernel
theorem dX6_has_30 : decode cX6_has 30 = .ok (.lreturn, 1) := by decide +kernel
theorem dX6_has_31 : decode cX6_has 31 = .ok (.aload_n 0, 1) := by decide +kernel
theorem dX6_has_32 : decode cX6_has 32 = .ok (.iload_n 1, 1) := by decide +kernel
theorem dX6_has_33 : decode cX6_has 33 = .ok (.invokevirtual 216, 3) := by decide +kernel
theorem dX6_has_36 : decode cX6_has 36 = .ok (.istore 4, 2) := by decide +kernel
theorem dX6_has_38 : decode cX6_has 38 = .ok (.iload 4, 2) := by decide +kernel
theorem dX6_has_40 : decode cX6_has 40 = .ok (.iconst (-1), 1) := by decide +kernel
theorem dX6_has_41 : decode cX6_has 41 = .ok (.if_icmp .ne 5, 3) := by decide +kernel
theorem dX6_has_44 : decode cX6_has 44 = .ok (.lconst 1, 1) := by decide +kernel
theorem dX6_has_45 : decode cX6_has 45 = .ok (.lreturn, 1) := by decide +kernel
theorem dX6_has_46 : decode cX6_has 46 = .ok (.iload 4, 2) := by decide +kernel
theorem dX6_has_48 : decode cX6_has 48 = .ok (.ifCond .eq 9, 3) := by decide +kernel
theorem dX6_has_51 : decode cX6_has 51 = .ok (.iload 4, 2) := by decide +kernel
theorem dX6_has_53 : decode cX6_has 53 = .ok (.invokestatic 94, 3) := by decide +kernel
theorem dX6_has_56 : decode cX6_has 56 = .ok (.lreturn, 1) := by decide +kernel
theorem dX6_has_57 : decode cX6_has 57 = .ok (.iload_n 2, 1) := by decide +kernel
theorem dX6_has_58 : decode cX6_has 58 = .ok (.i2l, 1) := by decide +kernel
theorem dX6_has_59 : decode cX6_has 59 = .ok (.aload_n 0, 1) := by decide +kernel
theorem dX6_has_60 : decode cX6_has 60 = .ok (.getfield 49, 3) := by decide +kernel
theorem dX6_has_63 : decode cX6_has 63 = .ok (.getfield 219, 3) := by decide +kernel
theorem dX6_has_66 : decode cX6_has 66 = .ok (.lmul, 1) := by decide +kernel
theorem dX6_has_67 : decode cX6_has 67 = .ok (.lstore 5, 2) := by decide +kernel
theorem dX6_has_69 : decode cX6_has 69 = .ok (.aload_n 0, 1) := by decide +kernel
theorem dX6_has_70 : decode cX6_has 70 = .ok (.getfield 49, 3) := by decide +kernel
theorem dX6_has_73 : decode cX6_has 73 = .ok (.lload 5, 2) := by decide +kernel
theorem dX6_has_75 : decode cX6_has 75 = .ok (.lload 5, 2) := by decide +kernel
theorem dX6_has_77 : decode cX6_has 77 = .ok (.bipush 100, 2) := by decide +kernel
theorem dX6_has_79 : decode cX6_has 79 = .ok (.iload_n 2, 1) := by decide +kernel
theorem dX6_has_80 : decode cX6_has 80 = .ok (.isub, 1) := by decide +kernel
theorem dX6_has_81 : decode cX6_has 81 = .ok (.i2l, 1) := by decide +kernel
theorem dX6_has_82 : decode cX6_has 82 = .ok (.aload_n 0, 1) := by decide +kernel
theorem dX6_has_83 : decode cX6_has 83 = .ok (.getfield 49, 3) := by decide +kernel
theorem dX6_has_86 : decode cX6_has 86 = .ok (.getfield 223, 3) := by decide +kernel
theorem dX6_has_89 : decode cX6_has 89 = .ok (.lmul, 1) := by decide +kernel
theorem dX6_has_90 : decode cX6_has 90 = .ok (.ladd, 1) := by decide +kernel
theorem dX6_has_91 : decode cX6_has 91 = .ok (.invokevirtual 111, 3) := by decide +kernel
theorem dX6_has_94 : decode cX6_has 94 = .ok (.aload_n 0, 1) := by decide +kernel
theorem dX6_has_95 : decode cX6_has 95 = .ok (.getfield 49, 3) := by decide +kernel
theorem dX6_has_98 : decode cX6_has 98 = .ok (.iload_n 3, 1) := by decide +kernel
theorem dX6_has_99 : decode cX6_has 99 = .ok (.invokevirtual 115, 3) := by decide +kernel
theorem dX6_has_102 : decode cX6_has 102 = .ok (.lreturn, 1) := by decide +kernel
theorem dX6_exposed_0 : decode cX6_exposed 0 = .ok (.iload_n 1, 1) := by decide +kernel
theorem dX6_exposed_1 : decode cX6_exposed 1 = .ok (.invokestatic 71, 3) := by decide +kernel
theorem dX6_exposed_4 : decode cX6_exposed 4 = .ok (.ifCond .eq 10, 3) := by decide +kernel
theorem dX6_exposed_7 : decode cX6_exposed 7 = .ok (.iload_n 2, 1) := by decide +kernel
theorem dX6_exposed_8 : decode cX6_exposed 8 = .ok (.invokestatic 91, 3) := by decide +kernel
theorem dX6_exposed_11 : decode cX6_exposed 11 = .ok (.ifCond .ne 9, 3) := by decide +kernel
theorem dX6_exposed_14 : decode cX6_exposed 14 = .ok (.bipush (-2), 2) := by decide +kernel
theorem dX6_exposed_16 : decode cX6_exposed 16 = .ok (.invokestatic 94, 3) := by decide +kernel
theorem dX6_exposed_19 : decode cX6_exposed 19 = .ok (.lreturn, 1) := by decide +kernel
theorem dX6_exposed_20 : decode cX6_exposed 20 = .ok (.aload_n 0, 1) := by decide +kernel
theorem dX6_exposed_21 : decode cX6_exposed 21 = .ok (.getfield 11, 3) := by decide +kernel
theorem dX6_exposed_24 : decode cX6_exposed 24 = .ok (.iload_n 1, 1) := by decide +kernel
theorem dX6_exposed_25 : decode cX6_exposed 25 = .ok (.aaload, 1) := by decide +kernel
theorem dX6_exposed_26 : decode cX6_exposed 26 = .ok (.astore_n 3, 1) := by decide +kernel
theorem dX6_exposed_27 : decode cX6_exposed 27 = .ok (.aload_n 3, 1) := by decide +kernel
theorem dX6_exposed_28 : decode cX6_exposed 28 = .ok (.invokevirtual 98, 3) := by decide +kernel
theorem dX6_exposed_31 : decode cX6_exposed 31 = .ok (.ifCond .ne 10, 3) := by decide +kernel
theorem dX6_exposed_34 : decode cX6_exposed 34 = .ok (.aload_n 3, 1) := by decide +kernel
theorem dX6_exposed_35 : decode cX6_exposed 35 = .ok (.invokevirtual 226, 3) := by decide +kernel
theorem dX6_exposed_38 : decode cX6_exposed 38 = .ok (.ifCond .ne 9, 3) := by decide +kernel
theorem dX6_exposed_41 : decode cX6_exposed 41 = .ok (.bipush (-3), 2) := by decide +kernel
theorem dX6_exposed_43 : decode cX6_exposed 43 = .ok (.invokestatic 94, 3) := by decide +kernel
theorem dX6_exposed_46 : decode cX6_exposed 46 = .ok (.lreturn, 1) := by decide +kernel
theorem dX6_exposed_47 : decode cX6_exposed 47 = .ok (.aload_n 3, 1) := by decide +kernel
theorem dX6_exposed_48 : decode cX6_exposed 48 = .ok (.getfield 102, 3) := by decide +kernel
theorem dX6_exposed_51 : decode cX6_exposed 51 = .ok (.aload_n 3, 1) := by decide +kernel
theorem dX6_exposed_52 : decode cX6_exposed 52 = .ok (.getfield 105, 3) := by decide +kernel
theorem dX6_exposed_55 : decode cX6_exposed 55 = .ok (.invokestatic 229, 3) := by decide +kernel
theorem dX6_exposed_58 : decode cX6_exposed 58 = .ok (.i2l, 1) := by decide +kernel
theorem dX6_exposed_59 : decode cX6_exposed 59 = .ok (.lstore 4, 2) := by decide +kernel
theorem dX6_exposed_61 : decode cX6_exposed 61 = .ok (.aload_n 3, 1) := by decide +kernel
theorem dX6_exposed_62 : decode cX6_exposed 62 = .ok (.getfield 102, 3) := by decide +kernel
theorem dX6_exposed_65 : decode cX6_exposed 65 = .ok (.aload_n 3, 1) := by decide +kernel
theorem dX6_exposed_66 : decode cX6_exposed 66 = .ok (.getfield 105, 3) := by decide +kernel
theorem dX6_exposed_69 : decode cX6_exposed 69 = .ok (.invokestatic 235, 3) := by decide +kernel
theorem dX6_exposed_72 : decode cX6_exposed 72 = .ok (.i2l, 1) := by decide +kernel
theorem dX6_exposed_73 : decode cX6_exposed 73 = .ok (.lstore 6, 2) := by decide +kernel
theorem dX6_exposed_75 : decode cX6_exposed 75 = .ok (.aload_n 3, 1) := by decide +kernel
theorem dX6_exposed_76 : decode cX6_exposed 76 = .ok (.getfield 108, 3) := by decide +kernel
theorem dX6_exposed_79 : decode cX6_exposed 79 = .ok (.i2l, 1) := by decide +kernel
theorem dX6_exposed_80 : decode cX6_exposed 80 = .ok (.lload 6, 2) := by decide +kernel
theorem dX6_exposed_82 : decode cX6_exposed 82 = .ok (.lsub, 1) := by decide +kernel
theorem dX6_exposed_83 : decode cX6_exposed 83 = .ok (.lstore 8, 2) := by decide +kernel
theorem dX6_exposed_85 : decode cX6_exposed 85 = .ok (.aload_n 3, 1) := by decide +kernel
theorem dX6_exposed_86 : decode cX6_exposed 86 = .ok (.getfield 108, 3) := by decide +kernel
theorem dX6_exposed_89 : decode cX6_exposed 89 = .ok (.i2l, 1) := by decide +kernel
theorem dX6_exposed_90 : decode cX6_exposed 90 = .ok (.lload 4, 2) := by decide +kernel
theorem dX6_exposed_92 : decode cX6_exposed 92 = .ok (.lsub, 1) := by decide +kernel
theorem dX6_exposed_93 : decode cX6_exposed 93 = .ok (.lstore 10, 2) := by decide +kernel
theorem dX6_exposed_95 : decode cX6_exposed 95 = .ok (.lload 4, 2) := by decide +kernel
theorem dX6_exposed_97 : decode cX6_exposed 97 = .ok (.lload 10, 2) := by decide +kernel
theorem dX6_exposed_99 : decode cX6_exposed 99 = .ok (.lmul, 1) := by decide +kernel
theorem dX6_exposed_100 : decode cX6_exposed 100 = .ok (.lload 8, 2) := by decide +kernel
theorem dX6_exposed_102 : decode cX6_exposed 102 = .ok (.lload 6, 2) := by decide +kernel
theorem dX6_exposed_104 : decode cX6_exposed 104 = .ok (.lmul, 1) := by decide +kernel
theorem dX6_exposed_105 : decode cX6_exposed 105 = .ok (.lcmp, 1) := by decide +kernel
theorem dX6_exposed_106 : decode cX6_exposed 106 = .ok (.ifCond .lt 17, 3) := by decide +kernel
theorem dX6_exposed_109 : decode cX6_exposed 109 = .ok (.aload_n 0, 1) := by decide +kernel
theorem dX6_exposed_110 : decode cX6_exposed 110 = .ok (.getfield 49, 3) := by decide +kernel
theorem dX6_exposed_113 : decode cX6_exposed 113 = .ok (.lload 4, 2) := by decide +kernel
theorem dX6_exposed_115 : decode cX6_exposed 115 = .ok (.lload 6, 2) := by decide +kernel
theorem dX6_exposed_117 : decode cX6_exposed 117 = .ok (.invokevirtual 111, 3) := by decide +kernel
theorem dX6_exposed_120 : decode cX6_exposed 120 = .ok (.goto 14, 3) := by decide +kernel
theorem dX6_exposed_123 : decode cX6_exposed 123 = .ok (.aload_n 0, 1) := by decide +kernel
theorem dX6_exposed_124 : decode cX6_exposed 124 = .ok (.getfield 49, 3) := by decide +kernel
theorem dX6_exposed_127 : decode cX6_exposed 127 = .ok (.lload 8, 2) := by decide +kernel
theorem dX6_exposed_129 : decode cX6_exposed 129 = .ok (.lload 10, 2) := by decide +kernel
theorem dX6_exposed_131 : decode cX6_exposed 131 = .ok (.invokevirtual 111, 3) := by decide +kernel
theorem dX6_exposed_134 : decode cX6_exposed 134 = .ok (.aload_n 0, 1) := by decide +kernel
theorem dX6_exposed_135 : decode cX6_exposed 135 = .ok (.getfield 49, 3) := by decide +kernel
theorem dX6_exposed_138 : decode cX6_exposed 138 = .ok (.iload_n 2, 1) := by decide +kernel
theorem dX6_exposed_139 : decode cX6_exposed 139 = .ok (.invokevirtual 115, 3) := by decide +kernel
theorem dX6_exposed_142 : decode cX6_exposed 142 = .ok (.lreturn, 1) := by decide +kernel
theorem dX6_limit_0 : decode cX6_limit 0 = .ok (.iload_n 1, 1) := by decide +kernel
theorem dX6_limit_1 : decode cX6_limit 1 = .ok (.iconst 1, 1) := by decide +kernel
theorem dX6_limit_2 : decode cX6_limit 2 = .ok (.if_icmp .lt 10, 3) := by decide +kernel
theorem dX6_limit_5 : decode cX6_limit 5 = .ok (.iload_n 1, 1) := by decide +kernel
theorem dX6_limit_6 : decode cX6_limit 6 = .ok (.sipush 1000, 3) := by decide +kernel
theorem dX6_limit_9 : decode cX6_limit 9 = .ok (.if_icmp .le 6, 3) := by decide +kernel
theorem dX6_limit_12 : decode cX6_limit 12 = .ok (.bipush (-2), 2) := by decide +kernel
theorem dX6_limit_14 : decode cX6_limit 14 = .ok (.ireturn, 1) := by decide +kernel
theorem dX6_limit_15 : decode cX6_limit 15 = .ok (.aload_n 0, 1) := by decide +kernel
theorem dX6_limit_16 : decode cX6_limit 16 = .ok (.getfield 63, 3) := by decide +kernel
theorem dX6_limit_19 : decode cX6_limit 19 = .ok (.istore_n 2, 1) := by decide +kernel
theorem dX6_limit_20 : decode cX6_limit 20 = .ok (.aload_n 0, 1) := by decide +kernel
theorem dX6_limit_21 : decode cX6_limit 21 = .ok (.iload_n 1, 1) := by decide +kernel
theorem dX6_limit_22 : decode cX6_limit 22 = .ok (.putfield 63, 3) := by decide +kernel
theorem dX6_limit_25 : decode cX6_limit 25 = .ok (.iload_n 2, 1) := by decide +kernel
theorem dX6_limit_26 : decode cX6_limit 26 = .ok (.ireturn, 1) := by decide +kernel
theorem dX6_may_0 : decode cX6_may 0 = .ok (.iload_n 1, 1) := by decide +kernel
theorem dX6_may_1 : decode cX6_may 1 = .ok (.invokestatic 118, 3) := by decide +kernel
theorem dX6_may_4 : decode cX6_may 4 = .ok (.ifCond .eq 10, 3) := by decide +kernel
theorem dX6_may_7 : decode cX6_may 7 = .ok (.iload_n 2, 1) := by decide +kernel
theorem dX6_may_8 : decode cX6_may 8 = .ok (.invokestatic 71, 3) := by decide +kernel
theorem dX6_may_11 : decode cX6_may 11 = .ok (.ifCond .ne 6, 3) := by decide +kernel
theorem dX6_may_14 : decode cX6_may 14 = .ok (.bipush (-2), 2) := by decide +kernel
theorem dX6_may_16 : decode cX6_may 16 = .ok (.ireturn, 1) := by decide +kernel
theorem dX6_may_17 : decode cX6_may 17 = .ok (.aload_n 0, 1) := by decide +kernel
theorem dX6_may_18 : decode cX6_may 18 = .ok (.getfield 11, 3) := by decide +kernel
theorem dX6_may_21 : decode cX6_may 21 = .ok (.iload_n 2, 1) := by decide +kernel
theorem dX6_may_22 : decode cX6_may 22 = .ok (.aaload, 1) := by decide +kernel
theorem dX6_may_23 : decode cX6_may 23 = .ok (.invokevirtual 98, 3) := by decide +kernel
theorem dX6_may_26 : decode cX6_may 26 = .ok (.ifCond .eq 6, 3) := by decide +kernel
theorem dX6_may_29 : decode cX6_may 29 = .ok (.bipush (-3), 2) := by decide +kernel
theorem dX6_may_31 : decode cX6_may 31 = .ok (.ireturn, 1) := by decide +kernel
theorem dX6_may_32 : decode cX6_may 32 = .ok (.aload_n 0, 1) := by decide +kernel
theorem dX6_may_33 : decode cX6_may 33 = .ok (.iload_n 1, 1) := by decide +kernel
theorem dX6_may_34 : decode cX6_may 34 = .ok (.iload_n 2, 1) := by decide +kernel
theorem dX6_may_35 : decode cX6_may 35 = .ok (.invokevirtual 238, 3) := by decide +kernel
theorem dX6_may_38 : decode cX6_may 38 = .ok (.ifCond .eq 7, 3) := by decide +kernel
theorem dX6_may_41 : decode cX6_may 41 = .ok (.iconst 1, 1) := by decide +kernel
theorem dX6_may_42 : decode cX6_may 42 = .ok (.goto 4, 3) := by decide +kernel
theorem dX6_may_45 : decode cX6_may 45 = .ok (.iconst 0, 1) := by decide +kernel
theorem dX6_may_46 : decode cX6_may 46 = .ok (.ireturn, 1) := by decide +kernel
theorem dX6_best_0 : decode cX6_best 0 = .ok (.iload_n 1, 1) := by decide +kernel
theorem dX6_best_1 : decode cX6_best 1 = .ok (.iconst 2, 1) := by decide +kernel
theorem dX6_best_2 : decode cX6_best 2 = .ok (.if_icmp .lt 26, 3) := by decide +kernel
theorem dX6_best_5 : decode cX6_best 5 = .ok (.iload_n 1, 1) := by decide +kernel
theorem dX6_best_6 : decode cX6_best 6 = .ok (.bipush 30, 2) := by decide +kernel
theorem dX6_best_8 : decode cX6_best 8 = .ok (.if_icmp .gt 20, 3) := by decide +kernel
theorem dX6_best_11 : decode cX6_best 11 = .ok (.iload_n 2, 1) := by decide +kernel
theorem dX6_best_12 : decode cX6_best 12 = .ok (.ifCond .lt 16, 3) := by decide +kernel
theorem dX6_best_15 : decode cX6_best 15 = .ok (.iload_n 2, 1) := by decide +kernel
theorem dX6_best_16 : decode cX6_best 16 = .ok (.bipush 100, 2) := by decide +kernel
theorem dX6_best_18 : decode cX6_best 18 = .ok (.if_icmp .gt 10, 3) := by decide +kernel
theorem dX6_best_21 : decode cX6_best 21 = .ok (.iload_n 3, 1) := by decide +kernel
theorem dX6_best_22 : decode cX6_best 22 = .ok (.invokestatic 91, 3) := by decide +kernel
theorem dX6_best_25 : decode cX6_best 25 = .ok (.ifCond .ne 6, 3) := by decide +kernel
theorem dX6_best_28 : decode cX6_best 28 = .ok (.bipush (-2), 2) := by decide +kernel
theorem dX6_best_30 : decode cX6_best 30 = .ok (.ireturn, 1) := by decide +kernel
theorem dX6_best_31 : decode cX6_best 31 = .ok (.iconst (-1), 1) := by decide +kernel
theorem dX6_best_32 : decode cX6_best 32 = .ok (.istore 4, 2) := by decide +kernel
theorem dX6_best_34 : decode cX6_best 34 = .ok (.iconst (-1), 1) := by decide +kernel
theorem dX6_best_35 : decode cX6_best 35 = .ok (.istore 5, 2) := by decide +kernel
theorem dX6_best_37 : decode cX6_best 37 = .ok (.iconst 2, 1) := by decide +kernel
theorem dX6_best_38 : decode cX6_best 38 = .ok (.istore 6, 2) := by decide +kernel
theorem dX6_best_40 : decode cX6_best 40 = .ok (.iload 6, 2) := by decide +kernel
theorem dX6_best_42 : decode cX6_best 42 = .ok (.bipush 24, 2) := by decide +kernel
theorem dX6_best_44 : decode cX6_best 44 = .ok (.if_icmp .ge 90, 3) := by decide +kernel
theorem dX6_best_47 : decode cX6_best 47 = .ok (.iconst 1, 1) := by decide +kernel
theorem dX6_best_48 : decode cX6_best 48 = .ok (.istore 7, 2) := by decide +kernel
theorem dX6_best_50 : decode cX6_best 50 = .ok (.iload 7, 2) := by decide +kernel
theorem dX6_best_52 : decode cX6_best 52 = .ok (.iload 6, 2) := by decide +kernel
theorem dX6_best_54 : decode cX6_best 54 = .ok (.if_icmp .ge 74, 3) := by decide +kernel
theorem dX6_best_57 : decode cX6_best 57 = .ok (.iload 6, 2) := by decide +kernel
theorem dX6_best_59 : decode cX6_best 59 = .ok (.iload_n 1, 1) := by decide +kernel
theorem dX6_best_60 : decode cX6_best 60 = .ok (.iload 7, 2) := by decide +kernel
theorem dX6_best_62 : decode cX6_best 62 = .ok (.imul, 1) := by decide +kernel
theorem dX6_best_63 : decode cX6_best 63 = .ok (.if_icmp .gt 22, 3) := by decide +kernel
theorem dX6_best_66 : decode cX6_best 66 = .ok (.bipush 24, 2) := by decide +kernel
theorem dX6_best_68 : decode cX6_best 68 = .ok (.iload 7, 2) := by decide +kernel
theorem dX6_best_70 : decode cX6_best 70 = .ok (.isub, 1) := by decide +kernel
theorem dX6_best_71 : decode cX6_best 71 = .ok (.iload_n 1, 1) := by decide +kernel
theorem dX6_best_72 : decode cX6_best 72 = .ok (.bipush 24, 2) := by decide +kernel
theorem dX6_best_74 : decode cX6_best 74 = .ok (.iload 6, 2) := by decide +kernel
theorem dX6_best_76 : decode cX6_best 76 = .ok (.isub, 1) := by decide +kernel
theorem dX6_best_77 : decode cX6_best 77 = .ok (.imul, 1) := by decide +kernel
theorem dX6_best_78 : decode cX6_best 78 = .ok (.if_icmp .gt 7, 3) := by decide +kernel
theorem dX6_best_81 : decode cX6_best 81 = .ok (.iconst 1, 1) := by decide +kernel
theorem dX6_best_82 : decode cX6_best 82 = .ok (.goto 4, 3) := by decide +kernel
theorem dX6_best_85 : decode cX6_best 85 = .ok (.iconst 0, 1) := by decide +kernel
theorem dX6_best_86 : decode cX6_best 86 = .ok (.istore 8, 2) := by decide +kernel
theorem dX6_best_88 : decode cX6_best 88 = .ok (.iload 8, 2) := by decide +kernel
theorem dX6_best_90 : decode cX6_best 90 = .ok (.ifCond .eq 32, 3) := by decide +kernel
theorem dX6_best_93 : decode cX6_best 93 = .ok (.iload 4, 2) := by decide +kernel
theorem dX6_best_95 : decode cX6_best 95 = .ok (.iconst (-1), 1) := by decide +kernel
theorem dX6_best_96 : decode cX6_best 96 = .ok (.if_icmp .eq 18, 3) := by decide +kernel
theorem dX6_best_99 : decode cX6_best 99 = .ok (.iload 6, 2) := by decide +kernel
theorem dX6_best_101 : decode cX6_best 101 = .ok (.iload 7, 2) := by decide +kernel
theorem dX6_best_103 : decode cX6_best 103 = .ok (.iload 4, 2) := by decide +kernel
theorem dX6_best_105 : decode cX6_best 105 = .ok (.iload 5, 2) := by decide +kernel
theorem dX6_best_107 : decode cX6_best 107 = .ok (.iload_n 2, 1) := by decide +kernel
theorem dX6_best_108 : decode cX6_best 108 = .ok (.invokestatic 241, 3) := by decide +kernel
theorem dX6_best_111 : decode cX6_best 111 = .ok (.ifCond .eq 11, 3) := by decide +kernel
theorem dX6_best_114 : decode cX6_best 114 = .ok (.iload 6, 2) := by decide +kernel
theorem dX6_best_116 : decode cX6_best 116 = .ok (.istore 4, 2) := by decide +kernel
theorem dX6_best_118 : decode cX6_best 118 = .ok (.iload 7, 2) := by decide +kernel
theorem dX6_best_120 : decode cX6_best 120 = .ok (.istore 5, 2) := by decide +kernel
theorem dX6_best_122 : decode cX6_best 122 = .ok (.iinc 7 1, 3) := by decide +kernel
theorem dX6_best_125 : decode cX6_best 125 = .ok (.goto (-75), 3) := by decide +kernel
theorem dX6_best_128 : decode cX6_best 128 = .ok (.iinc 6 1, 3) := by decide +kernel
theorem dX6_best_131 : decode cX6_best 131 = .ok (.goto (-91), 3) := by decide +kernel
theorem dX6_best_134 : decode cX6_best 134 = .ok (.iload 4, 2) := by decide +kernel
theorem dX6_best_136 : decode cX6_best 136 = .ok (.iconst (-1), 1) := by decide +kernel
theorem dX6_best_137 : decode cX6_best 137 = .ok (.if_icmp .ne 6, 3) := by decide +kernel
theorem dX6_best_140 : decode cX6_best 140 = .ok (.bipush (-3), 2) := by decide +kernel
theorem dX6_best_142 : decode cX6_best 142 = .ok (.ireturn, 1) := by decide +kernel
theorem dX6_best_143 : decode cX6_best 143 = .ok (.iload_n 3, 1) := by decide +kernel
theorem dX6_best_144 : decode cX6_best 144 = .ok (.ifCond .ne 8, 3) := by decide +kernel
theorem dX6_best_147 : decode cX6_best 147 = .ok (.iload 4, 2) := by decide +kernel
theorem dX6_best_149 : decode cX6_best 149 = .ok (.goto 5, 3) := by decide +kernel
theorem dX6_best_152 : decode cX6_best 152 = .ok (.iload 5, 2) := by decide +kernel
theorem dX6_best_154 : decode cX6_best 154 = .ok (.ireturn, 1) := by decide +kernel
theorem dX6_parted_0 : decode cX6_parted 0 = .ok (.iload_n 1, 1) := by decide +kernel
theorem dX6_parted_1 : decode cX6_parted 1 = .ok (.invokestatic 128, 3) := by decide +kernel
theorem dX6_parted_4 : decode cX6_parted 4 = .ok (.ifCond .eq 36, 3) := by decide +kernel
theorem dX6_parted_7 : decode cX6_parted 7 = .ok (.iload_n 2, 1) := by decide +kernel
theorem dX6_parted_8 : decode cX6_parted 8 = .ok (.invokestatic 71, 3) := by decide +kernel
theorem dX6_parted_11 : decode cX6_parted 11 = .ok (.ifCond .eq 29, 3) := by decide +kernel
theorem dX6_parted_14 : decode cX6_parted 14 = .ok (.iload_n 3, 1) := by decide +kernel
theorem dX6_parted_15 : decode cX6_parted 15 = .ok (.invokestatic 71, 3) := by decide +kernel
theorem dX6_parted_18 : decode cX6_parted 18 = .ok (.ifCond .eq 22, 3) := by decide +kernel
theorem dX6_parted_21 : decode cX6_parted 21 = .ok (.iload 4, 2) := by decide +kernel
theorem dX6_parted_23 : decode cX6_parted 23 = .ok (.ifCond .lt 17, 3) := by decide +kernel
theorem dX6_parted_26 : decode cX6_parted 26 = .ok (.iload 4, 2) := by decide +kernel
theorem dX6_parted_28 : decode cX6_parted 28 = .ok (.iconst 4, 1) := by decide +kernel
theorem dX6_parted_29 : decode cX6_parted 29 = .ok (.if_icmp .ge 11, 3) := by decide +kernel
theorem dX6_parted_32 : decode cX6_parted 32 = .ok (.iload 5, 2) := by decide +kernel
theorem dX6_parted_34 : decode cX6_parted 34 = .ok (.invokestatic 91, 3) := by decide +kernel
theorem dX6_parted_37 : decode cX6_parted 37 = .ok (.ifCond .ne 9, 3) := by decide +kernel
theorem dX6_parted_40 : decode cX6_parted 40 = .ok (.bipush (-2), 2) := by decide +kernel
theorem dX6_parted_42 : decode cX6_parted 42 = .ok (.invokestatic 94, 3) := by decide +kernel
theorem dX6_parted_45 : decode cX6_parted 45 = .ok (.lreturn, 1) := by decide +kernel
theorem dX6_parted_46 : decode cX6_parted 46 = .ok (.aload_n 0, 1) := by decide +kernel
theorem dX6_parted_47 : decode cX6_parted 47 = .ok (.getfield 17, 3) := by decide +kernel
theorem dX6_parted_50 : decode cX6_parted 50 = .ok (.iload_n 1, 1) := by decide +kernel
theorem dX6_parted_51 : decode cX6_parted 51 = .ok (.aaload, 1) := by decide +kernel
theorem dX6_parted_52 : decode cX6_parted 52 = .ok (.astore 6, 2) := by decide +kernel
theorem dX6_parted_54 : decode cX6_parted 54 = .ok (.aload 6, 2) := by decide +kernel
theorem dX6_parted_56 : decode cX6_parted 56 = .ok (.invokevirtual 131, 3) := by decide +kernel
theorem dX6_parted_59 : decode cX6_parted 59 = .ok (.ifCond .eq 12, 3) := by decide +kernel
theorem dX6_parted_62 : decode cX6_parted 62 = .ok (.aload_n 0, 1) := by decide +kernel
theorem dX6_parted_63 : decode cX6_parted 63 = .ok (.iconst 1, 1) := by decide +kernel
theorem dX6_parted_64 : decode cX6_parted 64 = .ok (.invokevirtual 134, 3) := by decide +kernel
theorem dX6_parted_67 : decode cX6_parted 67 = .ok (.invokestatic 94, 3) := by decide +kernel
theorem dX6_parted_70 : decode cX6_parted 70 = .ok (.lreturn, 1) := by decide +kernel
theorem dX6_parted_71 : decode cX6_parted 71 = .ok (.aload 6, 2) := by decide +kernel
theorem dX6_parted_73 : decode cX6_parted 73 = .ok (.getfield 138, 3) := by decide +kernel
theorem dX6_parted_76 : decode cX6_parted 76 = .ok (.iconst 4, 1) := by decide +kernel
theorem dX6_parted_77 : decode cX6_parted 77 = .ok (.if_icmp .ge 12, 3) := by decide +kernel
theorem dX6_parted_80 : decode cX6_parted 80 = .ok (.aload_n 0, 1) := by decide +kernel
theorem dX6_parted_81 : decode cX6_parted 81 = .ok (.iconst 2, 1) := by decide +kernel
theorem dX6_parted_82 : decode cX6_parted 82 = .ok (.invokevirtual 134, 3) := by decide +kernel
theorem dX6_parted_85 : decode cX6_parted 85 = .ok (.invokestatic 94, 3) := by decide +kernel
theorem dX6_parted_88 : decode cX6_parted 88 = .ok (.lreturn, 1) := by decide +kernel
theorem dX6_parted_89 : decode cX6_parted 89 = .ok (.aload_n 0, 1) := by decide +kernel
theorem dX6_parted_90 : decode cX6_parted 90 = .ok (.getfield 11, 3) := by decide +kernel
theorem dX6_parted_93 : decode cX6_parted 93 = .ok (.iload_n 2, 1) := by decide +kernel
theorem dX6_parted_94 : decode cX6_parted 94 = .ok (.aaload, 1) := by decide +kernel
theorem dX6_parted_95 : decode cX6_parted 95 = .ok (.astore 7, 2) := by decide +kernel
theorem dX6_parted_97 : decode cX6_parted 97 = .ok (.aload_n 0, 1) := by decide +kernel
theorem dX6_parted_98 : decode cX6_parted 98 = .ok (.getfield 11, 3) := by decide +kernel
theorem dX6_parted_101 : decode cX6_parted 101 = .ok (.iload_n 3, 1) := by decide +kernel
theorem dX6_parted_102 : decode cX6_parted 102 = .ok (.aaload, 1) := by decide +kernel
theorem dX6_parted_103 : decode cX6_parted 103 = .ok (.astore 8, 2) := by decide +kernel
theorem dX6_parted_105 : decode cX6_parted 105 = .ok (.aload 6, 2) := by decide +kernel
theorem dX6_parted_107 : decode cX6_parted 107 = .ok (.invokestatic 245, 3) := by decide +kernel
theorem dX6_parted_110 : decode cX6_parted 110 = .ok (.lstore 9, 2) := by decide +kernel
theorem dX6_parted_112 : decode cX6_parted 112 = .ok (.aload 7, 2) := by decide +kernel
theorem dX6_parted_114 : decode cX6_parted 114 = .ok (.invokevirtual 98, 3) := by decide +kernel
theorem dX6_parted_117 : decode cX6_parted 117 = .ok (.ifCond .ne 34, 3) := by decide +kernel
theorem dX6_parted_120 : decode cX6_parted 120 = .ok (.aload 8, 2) := by decide +kernel
theorem dX6_parted_122 : decode cX6_parted 122 = .ok (.invokevirtual 98, 3) := by decide +kernel
theorem dX6_parted_125 : decode cX6_parted 125 = .ok (.ifCond .ne 26, 3) := by decide +kernel
theorem dX6_parted_128 : decode cX6_parted 128 = .ok (.aload 7, 2) := by decide +kernel
theorem dX6_parted_130 : decode cX6_parted 130 = .ok (.invokevirtual 249, 3) := by decide +kernel
theorem dX6_parted_133 : decode cX6_parted 133 = .ok (.ifCond .eq 18, 3) := by decide +kernel
theorem dX6_parted_136 : decode cX6_parted 136 = .ok (.aload 8, 2) := by decide +kernel
theorem dX6_parted_138 : decode cX6_parted 138 = .ok (.invokevirtual 249, 3) := by decide +kernel
theorem dX6_parted_141 : decode cX6_parted 141 = .ok (.ifCond .eq 10, 3) := by decide +kernel
theorem dX6_parted_144 : decode cX6_parted 144 = .ok (.lload 9, 2) := by decide +kernel
theorem dX6_parted_146 : decode cX6_parted 146 = .ok (.lconst 1, 1) := by decide +kernel
theorem dX6_parted_147 : decode cX6_parted 147 = .ok (.lcmp, 1) := by decide +kernel
theorem dX6_parted_148 : decode cX6_parted 148 = .ok (.ifCond .ge 9, 3) := by decide +kernel
theorem dX6_parted_151 : decode cX6_parted 151 = .ok (.bipush (-3), 2) := by decide +kernel
theorem dX6_parted_153 : decode cX6_parted 153 = .ok (.invokestatic 94, 3) := by decide +kernel
theorem dX6_parted_156 : decode cX6_parted 156 = .ok (.lreturn, 1) := by decide +kernel
theorem dX6_parted_157 : decode cX6_parted 157 = .ok (.aload_n 0, 1) := by decide +kernel
theorem dX6_parted_158 : decode cX6_parted 158 = .ok (.aload 6, 2) := by decide +kernel
theorem dX6_parted_160 : decode cX6_parted 160 = .ok (.aload 7, 2) := by decide +kernel
theorem dX6_parted_162 : decode cX6_parted 162 = .ok (.aload 8, 2) := by decide +kernel
theorem dX6_parted_164 : decode cX6_parted 164 = .ok (.iload 4, 2) := by decide +kernel
theorem dX6_parted_166 : decode cX6_parted 166 = .ok (.lload 9, 2) := by decide +kernel
theorem dX6_parted_168 : decode cX6_parted 168 = .ok (.invokevirtual 252, 3) := by decide +kernel
theorem dX6_parted_171 : decode cX6_parted 171 = .ok (.aload_n 0, 1) := by decide +kernel
theorem dX6_parted_172 : decode cX6_parted 172 = .ok (.getfield 49, 3) := by decide +kernel
theorem dX6_parted_175 : decode cX6_parted 175 = .ok (.iload 5, 2) := by decide +kernel
theorem dX6_parted_177 : decode cX6_parted 177 = .ok (.invokevirtual 115, 3) := by decide +kernel
theorem dX6_parted_180 : decode cX6_parted 180 = .ok (.lreturn, 1) := by decide +kernel
theorem dX6_kept_0 : decode cX6_kept 0 = .ok (.aload_n 0, 1) := by decide +kernel
theorem dX6_kept_1 : decode cX6_kept 1 = .ok (.iload_n 1, 1) := by decide +kernel
theorem dX6_kept_2 : decode cX6_kept 2 = .ok (.iload_n 2, 1) := by decide +kernel
theorem dX6_kept_3 : decode cX6_kept 3 = .ok (.iconst 0, 1) := by decide +kernel
theorem dX6_kept_4 : decode cX6_kept 4 = .ok (.iconst 1, 1) := by decide +kernel
theorem dX6_kept_5 : decode cX6_kept 5 = .ok (.invokevirtual 177, 3) := by decide +kernel
theorem dX6_kept_8 : decode cX6_kept 8 = .ok (.istore_n 3, 1) := by decide +kernel
theorem dX6_kept_9 : decode cX6_kept 9 = .ok (.iload_n 3, 1) := by decide +kernel
theorem dX6_kept_10 : decode cX6_kept 10 = .ok (.ifCond .ne 11, 3) := by decide +kernel
theorem dX6_kept_13 : decode cX6_kept 13 = .ok (.aload_n 0, 1) := by decide +kernel
theorem dX6_kept_14 : decode cX6_kept 14 = .ok (.iload_n 1, 1) := by decide +kernel
theorem dX6_kept_15 : decode cX6_kept 15 = .ok (.iload_n 2, 1) := by decide +kernel
theorem dX6_kept_16 : decode cX6_kept 16 = .ok (.iconst 0, 1) := by decide +kernel
theorem dX6_kept_17 : decode cX6_kept 17 = .ok (.invokevirtual 184, 3) := by decide +kernel
theorem dX6_kept_20 : decode cX6_kept 20 = .ok (.istore_n 3, 1) := by decide +kernel
theorem dX6_kept_21 : decode cX6_kept 21 = .ok (.iload_n 3, 1) := by decide +kernel
theorem dX6_kept_22 : decode cX6_kept 22 = .ok (.ifCond .eq 5, 3) := by decide +kernel
theorem dX6_kept_25 : decode cX6_kept 25 = .ok (.iload_n 3, 1) := by decide +kernel
theorem dX6_kept_26 : decode cX6_kept 26 = .ok (.ireturn, 1) := by decide +kernel
theorem dX6_kept_27 : decode cX6_kept 27 = .ok (.aload_n 0, 1) := by decide +kernel
theorem dX6_kept_28 : decode cX6_kept 28 = .ok (.getfield 11, 3) := by decide +kernel
theorem dX6_kept_31 : decode cX6_kept 31 = .ok (.iload_n 2, 1) := by decide +kernel
theorem dX6_kept_32 : decode cX6_kept 32 = .ok (.aaload, 1) := by decide +kernel
theorem dX6_kept_33 : decode cX6_kept 33 = .ok (.astore 4, 2) := by decide +kernel
theorem dX6_kept_35 : decode cX6_kept 35 = .ok (.aload_n 0, 1) := by decide +kernel
theorem dX6_kept_36 : decode cX6_kept 36 = .ok (.getfield 42, 3) := by decide +kernel
theorem dX6_kept_39 : decode cX6_kept 39 = .ok (.aload 4, 2) := by decide +kernel
theorem dX6_kept_41 : decode cX6_kept 41 = .ok (.aload_n 0, 1) := by decide +kernel
theorem dX6_kept_42 : decode cX6_kept 42 = .ok (.getfield 35, 3) := by decide +kernel
theorem dX6_kept_45 : decode cX6_kept 45 = .ok (.getfield 172, 3) := by decide +kernel
theorem dX6_kept_48 : decode cX6_kept 48 = .ok (.aload 4, 2) := by decide +kernel
theorem dX6_kept_50 : decode cX6_kept 50 = .ok (.invokevirtual 180, 3) := by decide +kernel
theorem dX6_kept_53 : decode cX6_kept 53 = .ok (.lconst 0, 1) := by decide +kernel
theorem dX6_kept_54 : decode cX6_kept 54 = .ok (.lcmp, 1) := by decide +kernel
theorem dX6_kept_55 : decode cX6_kept 55 = .ok (.ifCond .le 7, 3) := by decide +kernel
theorem dX6_kept_58 : decode cX6_kept 58 = .ok (.iconst 0, 1) := by decide +kernel
theorem dX6_kept_59 : decode cX6_kept 59 = .ok (.goto 10, 3) := by decide +kernel
theorem dX6_kept_62 : decode cX6_kept 62 = .ok (.aload_n 0, 1) := by decide +kernel
theorem dX6_kept_63 : decode cX6_kept 63 = .ok (.getfield 35, 3) := by decide +kernel
theorem dX6_kept_66 : decode cX6_kept 66 = .ok (.getfield 172, 3) := by decide +kernel
theorem dX6_kept_69 : decode cX6_kept 69 = .ok (.invokevirtual 198, 3) := by decide +kernel
theorem dX6_kept_72 : decode cX6_kept 72 = .ok (.aload_n 0, 1) := by decide +kernel
theorem dX6_kept_73 : decode cX6_kept 73 = .ok (.getfield 42, 3) := by decide +kernel
theorem dX6_kept_76 : decode cX6_kept 76 = .ok (.iconst 0, 1) := by decide +kernel
theorem dX6_kept_77 : decode cX6_kept 77 = .ok (.aload_n 0, 1) := by decide +kernel
theorem dX6_kept_78 : decode cX6_kept 78 = .ok (.getfield 35, 3) := by decide +kernel
theorem dX6_kept_81 : decode cX6_kept 81 = .ok (.getfield 174, 3) := by decide +kernel
theorem dX6_kept_84 : decode cX6_kept 84 = .ok (.invokevirtual 202, 3) := by decide +kernel
theorem dX6_kept_87 : decode cX6_kept 87 = .ok (.aload_n 0, 1) := by decide +kernel
theorem dX6_kept_88 : decode cX6_kept 88 = .ok (.getfield 42, 3) := by decide +kernel
theorem dX6_kept_91 : decode cX6_kept 91 = .ok (.iconst 0, 1) := by decide +kernel
theorem dX6_kept_92 : decode cX6_kept 92 = .ok (.aload_n 0, 1) := by decide +kernel
theorem dX6_kept_93 : decode cX6_kept 93 = .ok (.getfield 35, 3) := by decide +kernel
theorem dX6_kept_96 : decode cX6_kept 96 = .ok (.getfield 172, 3) := by decide +kernel
theorem dX6_kept_99 : decode cX6_kept 99 = .ok (.invokevirtual 202, 3) := by decide +kernel
theorem dX6_kept_102 : decode cX6_kept 102 = .ok (.invokestatic 206, 3) := by decide +kernel
theorem dX6_kept_105 : decode cX6_kept 105 = .ok (.ireturn, 1) := by decide +kernel
theorem dX6_sheet_0 : decode cX6_sheet 0 = .ok (.iload_n 1, 1) := by decide +kernel
theorem dX6_sheet_1 : decode cX6_sheet 1 = .ok (.invokestatic 128, 3) := by decide +kernel
theorem dX6_sheet_4 : decode cX6_sheet 4 = .ok (.ifCond .eq 16, 3) := by decide +kernel
theorem dX6_sheet_7 : decode cX6_sheet 7 = .ok (.iload_n 2, 1) := by decide +kernel
theorem dX6_sheet_8 : decode cX6_sheet 8 = .ok (.invokestatic 256, 3) := by decide +kernel
theorem dX6_sheet_11 : decode cX6_sheet 11 = .ok (.ifCond .eq 9, 3) := by decide +kernel
theorem dX6_sheet_14 : decode cX6_sheet 14 = .ok (.iload_n 3, 1) := by decide +kernel
theorem dX6_sheet_15 : decode cX6_sheet 15 = .ok (.bipush 60, 2) := by decide +kernel
theorem dX6_sheet_17 : decode cX6_sheet 17 = .ok (.if_icmp .le 6, 3) := by decide +kernel
theorem dX6_sheet_20 : decode cX6_sheet 20 = .ok (.bipush (-2), 2) := by decide +kernel
theorem dX6_sheet_22 : decode cX6_sheet 22 = .ok (.ireturn, 1) := by decide +kernel
theorem dX6_sheet_23 : decode cX6_sheet 23 = .ok (.iload_n 3, 1) := by decide +kernel
theorem dX6_sheet_24 : decode cX6_sheet 24 = .ok (.ifCond .ge 9, 3) := by decide +kernel
theorem dX6_sheet_27 : decode cX6_sheet 27 = .ok (.aload_n 0, 1) := by decide +kernel
theorem dX6_sheet_28 : decode cX6_sheet 28 = .ok (.iconst 5, 1) := by decide +kernel
theorem dX6_sheet_29 : decode cX6_sheet 29 = .ok (.invokevirtual 134, 3) := by decide +kernel
theorem dX6_sheet_32 : decode cX6_sheet 32 = .ok (.ireturn, 1) := by decide +kernel
theorem dX6_sheet_33 : decode cX6_sheet 33 = .ok (.aload_n 0, 1) := by decide +kernel
theorem dX6_sheet_34 : decode cX6_sheet 34 = .ok (.getfield 17, 3) := by decide +kernel
theorem dX6_sheet_37 : decode cX6_sheet 37 = .ok (.iload_n 1, 1) := by decide +kernel
theorem dX6_sheet_38 : decode cX6_sheet 38 = .ok (.aaload, 1) := by decide +kernel
theorem dX6_sheet_39 : decode cX6_sheet 39 = .ok (.iload_n 2, 1) := by decide +kernel
theorem dX6_sheet_40 : decode cX6_sheet 40 = .ok (.iload_n 3, 1) := by decide +kernel
theorem dX6_sheet_41 : decode cX6_sheet 41 = .ok (.invokevirtual 259, 3) := by decide +kernel
theorem dX6_sheet_44 : decode cX6_sheet 44 = .ok (.iload_n 3, 1) := by decide +kernel
theorem dX6_sheet_45 : decode cX6_sheet 45 = .ok (.ireturn, 1) := by decide +kernel
theorem dX6_lose_0 : decode cX6_lose 0 = .ok (.iload_n 1, 1) := by decide +kernel
theorem dX6_lose_1 : decode cX6_lose 1 = .ok (.invokestatic 128, 3) := by decide +kernel
theorem dX6_lose_4 : decode cX6_lose 4 = .ok (.ifCond .ne 6, 3) := by decide +kernel
theorem dX6_lose_7 : decode cX6_lose 7 = .ok (.bipush (-2), 2) := by decide +kernel
theorem dX6_lose_9 : decode cX6_lose 9 = .ok (.ireturn, 1) := by decide +kernel
theorem dX6_lose_10 : decode cX6_lose 10 = .ok (.aload_n 0, 1) := by decide +kernel
theorem dX6_lose_11 : decode cX6_lose 11 = .ok (.getfield 17, 3) := by decide +kernel
theorem dX6_lose_14 : decode cX6_lose 14 = .ok (.iload_n 1, 1) := by decide +kernel
theorem dX6_lose_15 : decode cX6_lose 15 = .ok (.aaload, 1) := by decide +kernel
theorem dX6_lose_16 : decode cX6_lose 16 = .ok (.invokevirtual 131, 3) := by decide +kernel
theorem dX6_lose_19 : decode cX6_lose 19 = .ok (.ifCond .eq 11, 3) := by decide +kernel
theorem dX6_lose_22 : decode cX6_lose 22 = .ok (.aload_n 0, 1) := by decide +kernel
theorem dX6_lose_23 : decode cX6_lose 23 = .ok (.iconst 1, 1) := by decide +kernel
theorem dX6_lose_24 : decode cX6_lose 24 = .ok (.invokevirtual 134, 3) := by decide +kernel
theorem dX6_lose_27 : decode cX6_lose 27 = .ok (.goto 12, 3) := by decide +kernel
theorem dX6_lose_30 : decode cX6_lose 30 = .ok (.aload_n 0, 1) := by decide +kernel
theorem dX6_lose_31 : decode cX6_lose 31 = .ok (.getfield 17, 3) := by decide +kernel
theorem dX6_lose_34 : decode cX6_lose 34 = .ok (.iload_n 1, 1) := by decide +kernel
theorem dX6_lose_35 : decode cX6_lose 35 = .ok (.aaload, 1) := by decide +kernel
theorem dX6_lose_36 : decode cX6_lose 36 = .ok (.invokevirtual 262, 3) := by decide +kernel
theorem dX6_lose_39 : decode cX6_lose 39 = .ok (.ireturn, 1) := by decide +kernel
theorem dX6_put_0 : decode cX6_put 0 = .ok (.iload_n 1, 1) := by decide +kernel
theorem dX6_put_1 : decode cX6_put 1 = .ok (.invokestatic 128, 3) := by decide +kernel
theorem dX6_put_4 : decode cX6_put 4 = .ok (.ifCond .eq 10, 3) := by decide +kernel
theorem dX6_put_7 : decode cX6_put 7 = .ok (.iload_n 2, 1) := by decide +kernel
theorem dX6_put_8 : decode cX6_put 8 = .ok (.invokestatic 256, 3) := by decide +kernel
theorem dX6_put_11 : decode cX6_put 11 = .ok (.ifCond .ne 6, 3) := by decide +kernel
theorem dX6_put_14 : decode cX6_put 14 = .ok (.bipush (-2), 2) := by decide +kernel
theorem dX6_put_16 : decode cX6_put 16 = .ok (.ireturn, 1) := by decide +kernel
theorem dX6_put_17 : decode cX6_put 17 = .ok (.aload_n 0, 1) := by decide +kernel
theorem dX6_put_18 : decode cX6_put 18 = .ok (.getfield 17, 3) := by decide +kernel
theorem dX6_put_21 : decode cX6_put 21 = .ok (.iload_n 1, 1) := by decide +kernel
theorem dX6_put_22 : decode cX6_put 22 = .ok (.aaload, 1) := by decide +kernel
theorem dX6_put_23 : decode cX6_put 23 = .ok (.iload_n 2, 1) := by decide +kernel
theorem dX6_put_24 : decode cX6_put 24 = .ok (.iload_n 3, 1) := by decide +kernel
theorem dX6_put_25 : decode cX6_put 25 = .ok (.invokestatic 265, 3) := by decide +kernel
theorem dX6_put_28 : decode cX6_put 28 = .ok (.istore 5, 2) := by decide +kernel
theorem dX6_put_30 : decode cX6_put 30 = .ok (.iload 5, 2) := by decide +kernel
theorem dX6_put_32 : decode cX6_put 32 = .ok (.ifCond .eq 10, 3) := by decide +kernel
theorem dX6_put_35 : decode cX6_put 35 = .ok (.aload_n 0, 1) := by decide +kernel
theorem dX6_put_36 : decode cX6_put 36 = .ok (.iload 5, 2) := by decide +kernel
theorem dX6_put_38 : decode cX6_put 38 = .ok (.invokevirtual 134, 3) := by decide +kernel
theorem dX6_put_41 : decode cX6_put 41 = .ok (.ireturn, 1) := by decide +kernel
theorem dX6_put_42 : decode cX6_put 42 = .ok (.aload_n 0, 1) := by decide +kernel
theorem dX6_put_43 : decode cX6_put 43 = .ok (.getfield 17, 3) := by decide +kernel
theorem dX6_put_46 : decode cX6_put 46 = .ok (.iload_n 1, 1) := by decide +kernel
theorem dX6_put_47 : decode cX6_put 47 = .ok (.aaload, 1) := by decide +kernel
theorem dX6_put_48 : decode cX6_put 48 = .ok (.iload_n 3, 1) := by decide +kernel
theorem dX6_put_49 : decode cX6_put 49 = .ok (.iload 4, 2) := by decide +kernel
theorem dX6_put_51 : decode cX6_put 51 = .ok (.invokevirtual 269, 3) := by decide +kernel
theorem dX6_put_54 : decode cX6_put 54 = .ok (.iconst 1, 1) := by decide +kernel
theorem dX6_put_55 : decode cX6_put 55 = .ok (.ireturn, 1) := by decide +kernel
theorem dX6_get_0 : decode cX6_get 0 = .ok (.iload_n 1, 1) := by decide +kernel
theorem dX6_get_1 : decode cX6_get 1 = .ok (.invokestatic 128, 3) := by decide +kernel
theorem dX6_get_4 : decode cX6_get 4 = .ok (.ifCond .eq 10, 3) := by decide +kernel
theorem dX6_get_7 : decode cX6_get 7 = .ok (.iload_n 2, 1) := by decide +kernel
theorem dX6_get_8 : decode cX6_get 8 = .ok (.invokestatic 256, 3) := by decide +kernel
theorem dX6_get_11 : decode cX6_get 11 = .ok (.ifCond .ne 7, 3) := by decide +kernel
theorem dX6_get_14 : decode cX6_get 14 = .ok (.ldc_w 274, 3) := by decide +kernel
theorem dX6_get_17 : decode cX6_get 17 = .ok (.ireturn, 1) := by decide +kernel
theorem dX6_get_18 : decode cX6_get 18 = .ok (.aload_n 0, 1) := by decide +kernel
theorem dX6_get_19 : decode cX6_get 19 = .ok (.getfield 17, 3) := by decide +kernel
theorem dX6_get_22 : decode cX6_get 22 = .ok (.iload_n 1, 1) := by decide +kernel
theorem dX6_get_23 : decode cX6_get 23 = .ok (.aaload, 1) := by decide +kernel
theorem dX6_get_24 : decode cX6_get 24 = .ok (.iload_n 2, 1) := by decide +kernel
theorem dX6_get_25 : decode cX6_get 25 = .ok (.iload_n 3, 1) := by decide +kernel
theorem dX6_get_26 : decode cX6_get 26 = .ok (.invokestatic 265, 3) := by decide +kernel
theorem dX6_get_29 : decode cX6_get 29 = .ok (.istore 4, 2) := by decide +kernel
theorem dX6_get_31 : decode cX6_get 31 = .ok (.iload 4, 2) := by decide +kernel
theorem dX6_get_33 : decode cX6_get 33 = .ok (.ifCond .eq 13, 3) := by decide +kernel
theorem dX6_get_36 : decode cX6_get 36 = .ok (.aload_n 0, 1) := by decide +kernel
theorem dX6_get_37 : decode cX6_get 37 = .ok (.iload 4, 2) := by decide +kernel
theorem dX6_get_39 : decode cX6_get 39 = .ok (.putfield 66, 3) := by decide +kernel
theorem dX6_get_42 : decode cX6_get 42 = .ok (.ldc_w 274, 3) := by decide +kernel
theorem dX6_get_45 : decode cX6_get 45 = .ok (.ireturn, 1) := by decide +kernel
theorem dX6_get_46 : decode cX6_get 46 = .ok (.aload_n 0, 1) := by decide +kernel
theorem dX6_get_47 : decode cX6_get 47 = .ok (.getfield 17, 3) := by decide +kernel
theorem dX6_get_50 : decode cX6_get 50 = .ok (.iload_n 1, 1) := by decide +kernel
theorem dX6_get_51 : decode cX6_get 51 = .ok (.aaload, 1) := by decide +kernel
theorem dX6_get_52 : decode cX6_get 52 = .ok (.getfield 139, 3) := by decide +kernel
theorem dX6_get_55 : decode cX6_get 55 = .ok (.iload_n 3, 1) := by decide +kernel
theorem dX6_get_56 : decode cX6_get 56 = .ok (.iaload, 1) := by decide +kernel
theorem dX6_get_57 : decode cX6_get 57 = .ok (.ireturn, 1) := by decide +kernel
theorem dX6_copy_0 : decode cX6_copy 0 = .ok (.iload_n 1, 1) := by decide +kernel
theorem dX6_copy_1 : decode cX6_copy 1 = .ok (.invokestatic 128, 3) := by decide +kernel
theorem dX6_copy_4 : decode cX6_copy 4 = .ok (.ifCond .eq 10, 3) := by decide +kernel
theorem dX6_copy_7 : decode cX6_copy 7 = .ok (.iload_n 3, 1) := by decide +kernel
theorem dX6_copy_8 : decode cX6_copy 8 = .ok (.invokestatic 128, 3) := by decide +kernel
theorem dX6_copy_11 : decode cX6_copy 11 = .ok (.ifCond .ne 6, 3) := by decide +kernel
theorem dX6_copy_14 : decode cX6_copy 14 = .ok (.bipush (-2), 2) := by decide +kernel
theorem dX6_copy_16 : decode cX6_copy 16 = .ok (.ireturn, 1) := by decide +kernel
theorem dX6_copy_17 : decode cX6_copy 17 = .ok (.aload_n 0, 1) := by decide +kernel
theorem dX6_copy_18 : decode cX6_copy 18 = .ok (.getfield 17, 3) := by decide +kernel
theorem dX6_copy_21 : decode cX6_copy 21 = .ok (.iload_n 1, 1) := by decide +kernel
theorem dX6_copy_22 : decode cX6_copy 22 = .ok (.aaload, 1) := by decide +kernel
theorem dX6_copy_23 : decode cX6_copy 23 = .ok (.astore 6, 2) := by decide +kernel
theorem dX6_copy_25 : decode cX6_copy 25 = .ok (.aload_n 0, 1) := by decide +kernel
theorem dX6_copy_26 : decode cX6_copy 26 = .ok (.getfield 17, 3) := by decide +kernel
theorem dX6_copy_29 : decode cX6_copy 29 = .ok (.iload_n 3, 1) := by decide +kernel
theorem dX6_copy_30 : decode cX6_copy 30 = .ok (.aaload, 1) := by decide +kernel
theorem dX6_copy_31 : decode cX6_copy 31 = .ok (.astore 7, 2) := by decide +kernel
theorem dX6_copy_33 : decode cX6_copy 33 = .ok (.aload 6, 2) := by decide +kernel
theorem dX6_copy_35 : decode cX6_copy 35 = .ok (.invokevirtual 131, 3) := by decide +kernel
theorem dX6_copy_38 : decode cX6_copy 38 = .ok (.ifCond .ne 11, 3) := by decide +kernel
theorem dX6_copy_41 : decode cX6_copy 41 = .ok (.aload 7, 2) := by decide +kernel
theorem dX6_copy_43 : decode cX6_copy 43 = .ok (.invokevirtual 131, 3) := by decide +kernel
theorem dX6_copy_46 : decode cX6_copy 46 = .ok (.ifCond .eq 9, 3) := by decide +kernel
theorem dX6_copy_49 : decode cX6_copy 49 = .ok (.aload_n 0, 1) := by decide +kernel
theorem dX6_copy_50 : decode cX6_copy 50 = .ok (.iconst 1, 1) := by decide +kernel
theorem dX6_copy_51 : decode cX6_copy 51 = .ok (.invokevirtual 134, 3) := by decide +kernel
theorem dX6_copy_54 : decode cX6_copy 54 = .ok (.ireturn, 1) := by decide +kernel
theorem dX6_copy_55 : decode cX6_copy 55 = .ok (.aload 6, 2) := by decide +kernel
theorem dX6_copy_57 : decode cX6_copy 57 = .ok (.getfield 275, 3) := by decide +kernel
theorem dX6_copy_60 : decode cX6_copy 60 = .ok (.aload 7, 2) := by decide +kernel
theorem dX6_copy_62 : decode cX6_copy 62 = .ok (.getfield 275, 3) := by decide +kernel
theorem dX6_copy_65 : decode cX6_copy 65 = .ok (.if_icmp .eq 9, 3) := by decide +kernel
theorem dX6_copy_68 : decode cX6_copy 68 = .ok (.aload_n 0, 1) := by decide +kernel
theorem dX6_copy_69 : decode cX6_copy 69 = .ok (.iconst 4, 1) := by decide +kernel
theorem dX6_copy_70 : decode cX6_copy 70 = .ok (.invokevirtual 134, 3) := by decide +kernel
theorem dX6_copy_73 : decode cX6_copy 73 = .ok (.ireturn, 1) := by decide +kernel
theorem dX6_copy_74 : decode cX6_copy 74 = .ok (.aload 6, 2) := by decide +kernel
theorem dX6_copy_76 : decode cX6_copy 76 = .ok (.iload_n 2, 1) := by decide +kernel
theorem dX6_copy_77 : decode cX6_copy 77 = .ok (.iload 5, 2) := by decide +kernel
theorem dX6_copy_79 : decode cX6_copy 79 = .ok (.invokevirtual 278, 3) := by decide +kernel
theorem dX6_copy_82 : decode cX6_copy 82 = .ok (.ifCond .eq 15, 3) := by decide +kernel
theorem dX6_copy_85 : decode cX6_copy 85 = .ok (.aload 7, 2) := by decide +kernel
theorem dX6_copy_87 : decode cX6_copy 87 = .ok (.iload 4, 2) := by decide +kernel
theorem dX6_copy_89 : decode cX6_copy 89 = .ok (.iload 5, 2) := by decide +kernel
theorem dX6_copy_91 : decode cX6_copy 91 = .ok (.invokevirtual 278, 3) := by decide +kernel
theorem dX6_copy_94 : decode cX6_copy 94 = .ok (.ifCond .ne 9, 3) := by decide +kernel
theorem dX6_copy_97 : decode cX6_copy 97 = .ok (.aload_n 0, 1) := by decide +kernel
theorem dX6_copy_98 : decode cX6_copy 98 = .ok (.iconst 2, 1) := by decide +kernel
theorem dX6_copy_99 : decode cX6_copy 99 = .ok (.invokevirtual 134, 3) := by decide +kernel
theorem dX6_copy_102 : decode cX6_copy 102 = .ok (.ireturn, 1) := by decide +kernel
theorem dX6_copy_103 : decode cX6_copy 103 = .ok (.aload 6, 2) := by decide +kernel
theorem dX6_copy_105 : decode cX6_copy 105 = .ok (.getfield 139, 3) := by decide +kernel
theorem dX6_copy_108 : decode cX6_copy 108 = .ok (.iload_n 2, 1) := by decide +kernel
theorem dX6_copy_109 : decode cX6_copy 109 = .ok (.aload 7, 2) := by decide +kernel
theorem dX6_copy_111 : decode cX6_copy 111 = .ok (.getfield 139, 3) := by decide +kernel
theorem dX6_copy_114 : decode cX6_copy 114 = .ok (.iload 4, 2) := by decide +kernel
theorem dX6_copy_116 : decode cX6_copy 116 = .ok (.iload 5, 2) := by decide +kernel
theorem dX6_copy_118 : decode cX6_copy 118 = .ok (.invokestatic 281, 3) := by decide +kernel
theorem dX6_copy_121 : decode cX6_copy 121 = .ok (.iconst 1, 1) := by decide +kernel
theorem dX6_copy_122 : decode cX6_copy 122 = .ok (.ireturn, 1) := by decide +kernel
theorem dX6_write_0 : decode cX6_write 0 = .ok (.iload_n 1, 1) := by decide +kernel
theorem dX6_write_1 : decode cX6_write 1 = .ok (.invokestatic 71, 3) := by decide +kernel
theorem dX6_write_4 : decode cX6_write 4 = .ok (.ifCond .eq 10, 3) := by decide +kernel
theorem dX6_write_7 : decode cX6_write 7 = .ok (.iload_n 2, 1) := by decide +kernel
theorem dX6_write_8 : decode cX6_write 8 = .ok (.invokestatic 128, 3) := by decide +kernel
theorem dX6_write_11 : decode cX6_write 11 = .ok (.ifCond .ne 6, 3) := by decide +kernel
theorem dX6_write_14 : decode cX6_write 14 = .ok (.bipush (-2), 2) := by decide +kernel
theorem dX6_write_16 : decode cX6_write 16 = .ok (.ireturn, 1) := by decide +kernel
theorem dX6_write_17 : decode cX6_write 17 = .ok (.aload_n 0, 1) := by decide +kernel
theorem dX6_write_18 : decode cX6_write 18 = .ok (.getfield 17, 3) := by decide +kernel
theorem dX6_write_21 : decode cX6_write 21 = .ok (.iload_n 2, 1) := by decide +kernel
theorem dX6_write_22 : decode cX6_write 22 = .ok (.aaload, 1) := by decide +kernel
theorem dX6_write_23 : decode cX6_write 23 = .ok (.astore_n 3, 1) := by decide +kernel
theorem dX6_write_24 : decode cX6_write 24 = .ok (.aload_n 3, 1) := by decide +kernel
theorem dX6_write_25 : decode cX6_write 25 = .ok (.invokevirtual 131, 3) := by decide +kernel
theorem dX6_write_28 : decode cX6_write 28 = .ok (.ifCond .eq 9, 3) := by decide +kernel
theorem dX6_write_31 : decode cX6_write 31 = .ok (.aload_n 0, 1) := by decide +kernel
theorem dX6_write_32 : decode cX6_write 32 = .ok (.iconst 1, 1) := by decide +kernel
theorem dX6_write_33 : decode cX6_write 33 = .ok (.invokevirtual 134, 3) := by decide +kernel
theorem dX6_write_36 : decode cX6_write 36 = .ok (.ireturn, 1) := by decide +kernel
theorem dX6_write_37 : decode cX6_write 37 = .ok (.aload_n 0, 1) := by decide +kernel
theorem dX6_write_38 : decode cX6_write 38 = .ok (.getfield 11, 3) := by decide +kernel
theorem dX6_write_41 : decode cX6_write 41 = .ok (.iload_n 1, 1) := by decide +kernel
theorem dX6_write_42 : decode cX6_write 42 = .ok (.aaload, 1) := by decide +kernel
theorem dX6_write_43 : decode cX6_write 43 = .ok (.invokevirtual 98, 3) := by decide +kernel
theorem dX6_write_46 : decode cX6_write 46 = .ok (.ifCond .eq 6, 3) := by decide +kernel
theorem dX6_write_49 : decode cX6_write 49 = .ok (.bipush (-3), 2) := by decide +kernel
theorem dX6_write_51 : decode cX6_write 51 = .ok (.ireturn, 1) := by decide +kernel
theorem dX6_write_52 : decode cX6_write 52 = .ok (.aload_n 3, 1) := by decide +kernel
theorem dX6_write_53 : decode cX6_write 53 = .ok (.getfield 138, 3) := by decide +kernel
theorem dX6_write_56 : decode cX6_write 56 = .ok (.bipush 24, 2) := by decide +kernel
theorem dX6_write_58 : decode cX6_write 58 = .ok (.invokestatic 235, 3) := by decide +kernel
theorem dX6_write_61 : decode cX6_write 61 = .ok (.istore 4, 2) := by decide +kernel
theorem dX6_write_63 : decode cX6_write 63 = .ok (.iconst 0, 1) := by decide +kernel
theorem dX6_write_64 : decode cX6_write 64 = .ok (.istore 5, 2) := by decide +kernel
theorem dX6_write_66 : decode cX6_write 66 = .ok (.iload 5, 2) := by decide +kernel
theorem dX6_write_68 : decode cX6_write 68 = .ok (.iload 4, 2) := by decide +kernel
theorem dX6_write_70 : decode cX6_write 70 = .ok (.if_icmp .ge 30, 3) := by decide +kernel
theorem dX6_write_73 : decode cX6_write 73 = .ok (.aload_n 3, 1) := by decide +kernel
theorem dX6_write_74 : decode cX6_write 74 = .ok (.iload 5, 2) := by decide +kernel
theorem dX6_write_76 : decode cX6_write 76 = .ok (.aload_n 0, 1) := by decide +kernel
theorem dX6_write_77 : decode cX6_write 77 = .ok (.iload 5, 2) := by decide +kernel
theorem dX6_write_79 : decode cX6_write 79 = .ok (.iload_n 1, 1) := by decide +kernel
theorem dX6_write_80 : decode cX6_write 80 = .ok (.invokevirtual 238, 3) := by decide +kernel
theorem dX6_write_83 : decode cX6_write 83 = .ok (.ifCond .eq 7, 3) := by decide +kernel
theorem dX6_write_86 : decode cX6_write 86 = .ok (.iconst 1, 1) := by decide +kernel
theorem dX6_write_87 : decode cX6_write 87 = .ok (.goto 4, 3) := by decide +kernel
theorem dX6_write_90 : decode cX6_write 90 = .ok (.iconst 0, 1) := by decide +kernel
theorem dX6_write_91 : decode cX6_write 91 = .ok (.invokevirtual 269, 3) := by decide +kernel
theorem dX6_write_94 : decode cX6_write 94 = .ok (.iinc 5 1, 3) := by decide +kernel
theorem dX6_write_97 : decode cX6_write 97 = .ok (.goto (-31), 3) := by decide +kernel
theorem dX6_write_100 : decode cX6_write 100 = .ok (.iload 4, 2) := by decide +kernel
theorem dX6_write_102 : decode cX6_write 102 = .ok (.ireturn, 1) := by decide +kernel
theorem dX6_count_0 : decode cX6_count 0 = .ok (.iload_n 1, 1) := by decide +kernel
theorem dX6_count_1 : decode cX6_count 1 = .ok (.tableswitch 115 0 8 #[51, 56, 64, 77, 90, 95, 100, 105, 110], 51) := by decide +kernel
theorem dX6_count_52 : decode cX6_count 52 = .ok (.aload_n 0, 1) := by decide +kernel
theorem dX6_count_53 : decode cX6_count 53 = .ok (.getfield 53, 3) := by decide +kernel
theorem dX6_count_56 : decode cX6_count 56 = .ok (.ireturn, 1) := by decide +kernel
theorem dX6_count_57 : decode cX6_count 57 = .ok (.aload_n 0, 1) := by decide +kernel
theorem dX6_count_58 : decode cX6_count 58 = .ok (.getfield 28, 3) := by decide +kernel
theorem dX6_count_61 : decode cX6_count 61 = .ok (.getfield 287, 3) := by decide +kernel
theorem dX6_count_64 : decode cX6_count 64 = .ok (.ireturn, 1) := by decide +kernel
theorem dX6_count_65 : decode cX6_count 65 = .ok (.aload_n 0, 1) := by decide +kernel
theorem dX6_count_66 : decode cX6_count 66 = .ok (.getfield 28, 3) := by decide +kernel
theorem dX6_count_69 : decode cX6_count 69 = .ok (.aload_n 0, 1) := by decide +kernel
theorem dX6_count_70 : decode cX6_count 70 = .ok (.invokevirtual 160, 3) := by decide +kernel
theorem dX6_count_73 : decode cX6_count 73 = .ok (.iconst 0, 1) := by decide +kernel
theorem dX6_count_74 : decode cX6_count 74 = .ok (.invokevirtual 288, 3) := by decide +kernel
theorem dX6_count_77 : decode cX6_count 77 = .ok (.ireturn, 1) := by decide +kernel
theorem dX6_count_78 : decode cX6_count 78 = .ok (.aload_n 0, 1) := by decide +kernel
theorem dX6_count_79 : decode cX6_count 79 = .ok (.getfield 28, 3) := by decide +kernel
theorem dX6_count_82 : decode cX6_count 82 = .ok (.aload_n 0, 1) := by decide +kernel
theorem dX6_count_83 : decode cX6_count 83 = .ok (.invokevirtual 160, 3) := by decide +kernel
theorem dX6_count_86 : decode cX6_count 86 = .ok (.iconst 1, 1) := by decide +kernel
theorem dX6_count_87 : decode cX6_count 87 = .ok (.invokevirtual 288, 3) := by decide +kernel
theorem dX6_count_90 : decode cX6_count 90 = .ok (.ireturn, 1) := by decide +kernel
theorem dX6_count_91 : decode cX6_count 91 = .ok (.aload_n 0, 1) := by decide +kernel
theorem dX6_count_92 : decode cX6_count 92 = .ok (.invokevirtual 292, 3) := by decide +kernel
theorem dX6_count_95 : decode cX6_count 95 = .ok (.ireturn, 1) := by decide +kernel
theorem dX6_count_96 : decode cX6_count 96 = .ok (.aload_n 0, 1) := by decide +kernel
theorem dX6_count_97 : decode cX6_count 97 = .ok (.getfield 60, 3) := by decide +kernel
theorem dX6_count_100 : decode cX6_count 100 = .ok (.ireturn, 1) := by decide +kernel
theorem dX6_count_101 : decode cX6_count 101 = .ok (.aload_n 0, 1) := by decide +kernel
theorem dX6_count_102 : decode cX6_count 102 = .ok (.getfield 63, 3) := by decide +kernel
theorem dX6_count_105 : decode cX6_count 105 = .ok (.ireturn, 1) := by decide +kernel
theorem dX6_count_106 : decode cX6_count 106 = .ok (.aload_n 0, 1) := by decide +kernel
theorem dX6_count_107 : decode cX6_count 107 = .ok (.getfield 57, 3) := by decide +kernel
theorem dX6_count_110 : decode cX6_count 110 = .ok (.ireturn, 1) := by decide +kernel
theorem dX6_count_111 : decode cX6_count 111 = .ok (.aload_n 0, 1) := by decide +kernel
theorem dX6_count_112 : decode cX6_count 112 = .ok (.getfield 66, 3) := by decide +kernel
theorem dX6_count_115 : decode cX6_count 115 = .ok (.ireturn, 1) := by decide +kernel
theorem dX6_count_116 : decode cX6_count 116 = .ok (.bipush (-2), 2) := by decide +kernel
theorem dX6_count_118 : decode cX6_count 118 = .ok (.ireturn, 1) := by decide +kernel
theorem dX6_digest_0 : decode cX6_digest 0 = .ok (.ldc2_w 295, 3) := by decide +kernel
theorem dX6_digest_3 : decode cX6_digest 3 = .ok (.lstore_n 1, 1) := by decide +kernel
theorem dX6_digest_4 : decode cX6_digest 4 = .ok (.iconst 0, 1) := by decide +kernel
theorem dX6_digest_5 : decode cX6_digest 5 = .ok (.istore_n 3, 1) := by decide +kernel
theorem dX6_digest_6 : decode cX6_digest 6 = .ok (.iload_n 3, 1) := by decide +kernel
theorem dX6_digest_7 : decode cX6_digest 7 = .ok (.bipush 7, 2) := by decide +kernel
theorem dX6_digest_9 : decode cX6_digest 9 = .ok (.if_icmp .gt 22, 3) := by decide +kernel
theorem dX6_digest_12 : decode cX6_digest 12 = .ok (.ldc2_w 297, 3) := by decide +kernel
theorem dX6_digest_15 : decode cX6_digest 15 = .ok (.lload_n 1, 1) := by decide +kernel
theorem dX6_digest_16 : decode cX6_digest 16 = .ok (.lmul, 1) := by decide +kernel
theorem dX6_digest_17 : decode cX6_digest 17 = .ok (.aload_n 0, 1) := by decide +kernel
theorem dX6_digest_18 : decode cX6_digest 18 = .ok (.iload_n 3, 1) := by decide +kernel
theorem dX6_digest_19 : decode cX6_digest 19 = .ok (.invokevirtual 299, 3) := by decide +kernel
theorem dX6_digest_22 : decode cX6_digest 22 = .ok (.i2l, 1) := by decide +kernel
theorem dX6_digest_23 : decode cX6_digest 23 = .ok (.ladd, 1) := by decide +kernel
theorem dX6_digest_24 : decode cX6_digest 24 = .ok (.lstore_n 1, 1) := by decide +kernel
theorem dX6_digest_25 : decode cX6_digest 25 = .ok (.iinc 3 1, 3) := by decide +kernel
theorem dX6_digest_28 : decode cX6_digest 28 = .ok (.goto (-22), 3) := by decide +kernel
theorem dX6_digest_31 : decode cX6_digest 31 = .ok (.iconst 0, 1) := by decide +kernel
theorem dX6_digest_32 : decode cX6_digest 32 = .ok (.istore_n 3, 1) := by decide +kernel
theorem dX6_digest_33 : decode cX6_digest 33 = .ok (.iload_n 3, 1) := by decide +kernel
theorem dX6_digest_34 : decode cX6_digest 34 = .ok (.iconst 4, 1) := by decide +kernel
theorem dX6_digest_35 : decode cX6_digest 35 = .ok (.if_icmp .ge 79, 3) := by decide +kernel
theorem dX6_digest_38 : decode cX6_digest 38 = .ok (.ldc2_w 297, 3) := by decide +kernel
theorem dX6_digest_41 : decode cX6_digest 41 = .ok (.lload_n 1, 1) := by decide +kernel
theorem dX6_digest_42 : decode cX6_digest 42 = .ok (.lmul, 1) := by decide +kernel
theorem dX6_digest_43 : decode cX6_digest 43 = .ok (.aload_n 0, 1) := by decide +kernel
theorem dX6_digest_44 : decode cX6_digest 44 = .ok (.iload_n 3, 1) := by decide +kernel
theorem dX6_digest_45 : decode cX6_digest 45 = .ok (.invokevirtual 302, 3) := by decide +kernel
theorem dX6_digest_48 : decode cX6_digest 48 = .ok (.i2l, 1) := by decide +kernel
theorem dX6_digest_49 : decode cX6_digest 49 = .ok (.ladd, 1) := by decide +kernel
theorem dX6_digest_50 : decode cX6_digest 50 = .ok (.lstore_n 1, 1) := by decide +kernel
theorem dX6_digest_51 : decode cX6_digest 51 = .ok (.iconst 1, 1) := by decide +kernel
theorem dX6_digest_52 : decode cX6_digest 52 = .ok (.istore 4, 2) := by decide +kernel
theorem dX6_digest_54 : decode cX6_digest 54 = .ok (.iload 4, 2) := by decide +kernel
theorem dX6_digest_56 : decode cX6_digest 56 = .ok (.ifCond .lt 39, 3) := by decide +kernel
theorem dX6_digest_59 : decode cX6_digest 59 = .ok (.ldc2_w 297, 3) := by decide +kernel
theorem dX6_digest_62 : decode cX6_digest 62 = .ok (.lload_n 1, 1) := by decide +kernel
theorem dX6_digest_63 : decode cX6_digest 63 = .ok (.lmul, 1) := by decide +kernel
theorem dX6_digest_64 : decode cX6_digest 64 = .ok (.aload_n 0, 1) := by decide +kernel
theorem dX6_digest_65 : decode cX6_digest 65 = .ok (.iload_n 3, 1) := by decide +kernel
theorem dX6_digest_66 : decode cX6_digest 66 = .ok (.iload 4, 2) := by decide +kernel
theorem dX6_digest_68 : decode cX6_digest 68 = .ok (.iconst 0, 1) := by decide +kernel
theorem dX6_digest_69 : decode cX6_digest 69 = .ok (.invokevirtual 305, 3) := by decide +kernel
theorem dX6_digest_72 : decode cX6_digest 72 = .ok (.ladd, 1) := by decide +kernel
theorem dX6_digest_73 : decode cX6_digest 73 = .ok (.lstore_n 1, 1) := by decide +kernel
theorem dX6_digest_74 : decode cX6_digest 74 = .ok (.ldc2_w 297, 3) := by decide +kernel
theorem dX6_digest_77 : decode cX6_digest 77 = .ok (.lload_n 1, 1) := by decide +kernel
theorem dX6_digest_78 : decode cX6_digest 78 = .ok (.lmul, 1) := by decide +kernel
theorem dX6_digest_79 : decode cX6_digest 79 = .ok (.aload_n 0, 1) := by decide +kernel
theorem dX6_digest_80 : decode cX6_digest 80 = .ok (.iload_n 3, 1) := by decide +kernel
theorem dX6_digest_81 : decode cX6_digest 81 = .ok (.iload 4, 2) := by decide +kernel
theorem dX6_digest_83 : decode cX6_digest 83 = .ok (.iconst 1, 1) := by decide +kernel
theorem dX6_digest_84 : decode cX6_digest 84 = .ok (.invokevirtual 305, 3) := by decide +kernel
theorem dX6_digest_87 : decode cX6_digest 87 = .ok (.ladd, 1) := by decide +kernel
theorem dX6_digest_88 : decode cX6_digest 88 = .ok (.lstore_n 1, 1) := by decide +kernel
theorem dX6_digest_89 : decode cX6_digest 89 = .ok (.iinc 4 (-1), 3) := by decide +kernel
theorem dX6_digest_92 : decode cX6_digest 92 = .ok (.goto (-38), 3) := by decide +kernel
theorem dX6_digest_95 : decode cX6_digest 95 = .ok (.ldc2_w 297, 3) := by decide +kernel
theorem dX6_digest_98 : decode cX6_digest 98 = .ok (.lload_n 1, 1) := by decide +kernel
theorem dX6_digest_99 : decode cX6_digest 99 = .ok (.lmul, 1) := by decide +kernel
theorem dX6_digest_100 : decode cX6_digest 100 = .ok (.aload_n 0, 1) := by decide +kernel
theorem dX6_digest_101 : decode cX6_digest 101 = .ok (.iload_n 3, 1) := by decide +kernel
theorem dX6_digest_102 : decode cX6_digest 102 = .ok (.invokevirtual 309, 3) := by decide +kernel
theorem dX6_digest_105 : decode cX6_digest 105 = .ok (.i2l, 1) := by decide +kernel
theorem dX6_digest_106 : decode cX6_digest 106 = .ok (.ladd, 1) := by decide +kernel
theorem dX6_digest_107 : decode cX6_digest 107 = .ok (.lstore_n 1, 1) := by decide +kernel
theorem dX6_digest_108 : decode cX6_digest 108 = .ok (.iinc 3 1, 3) := by decide +kernel
theorem dX6_digest_111 : decode cX6_digest 111 = .ok (.goto (-78), 3) := by decide +kernel
theorem dX6_digest_114 : decode cX6_digest 114 = .ok (.iconst 0, 1) := by decide +kernel
theorem dX6_digest_115 : decode cX6_digest 115 = .ok (.istore_n 3, 1) := by decide +kernel
theorem dX6_digest_116 : decode cX6_digest 116 = .ok (.iload_n 3, 1) := by decide +kernel
theorem dX6_digest_117 : decode cX6_digest 117 = .ok (.iconst 4, 1) := by decide +kernel
theorem dX6_digest_118 : decode cX6_digest 118 = .ok (.if_icmp .ge 71, 3) := by decide +kernel
theorem dX6_digest_121 : decode cX6_digest 121 = .ok (.iconst 0, 1) := by decide +kernel
theorem dX6_digest_122 : decode cX6_digest 122 = .ok (.istore 4, 2) := by decide +kernel
theorem dX6_digest_124 : decode cX6_digest 124 = .ok (.iload 4, 2) := by decide +kernel
theorem dX6_digest_126 : decode cX6_digest 126 = .ok (.iconst 4, 1) := by decide +kernel
theorem dX6_digest_127 : decode cX6_digest 127 = .ok (.if_icmp .ge 56, 3) := by decide +kernel
theorem dX6_digest_130 : decode cX6_digest 130 = .ok (.ldc2_w 297, 3) := by decide +kernel
theorem dX6_digest_133 : decode cX6_digest 133 = .ok (.lload_n 1, 1) := by decide +kernel
theorem dX6_digest_134 : decode cX6_digest 134 = .ok (.lmul, 1) := by decide +kernel
theorem dX6_digest_135 : decode cX6_digest 135 = .ok (.aload_n 0, 1) := by decide +kernel
theorem dX6_digest_136 : decode cX6_digest 136 = .ok (.iload_n 3, 1) := by decide +kernel
theorem dX6_digest_137 : decode cX6_digest 137 = .ok (.iload 4, 2) := by decide +kernel
theorem dX6_digest_139 : decode cX6_digest 139 = .ok (.iconst 0, 1) := by decide +kernel
theorem dX6_digest_140 : decode cX6_digest 140 = .ok (.invokevirtual 312, 3) := by decide +kernel
theorem dX6_digest_143 : decode cX6_digest 143 = .ok (.i2l, 1) := by decide +kernel
theorem dX6_digest_144 : decode cX6_digest 144 = .ok (.ladd, 1) := by decide +kernel
theorem dX6_digest_145 : decode cX6_digest 145 = .ok (.lstore_n 1, 1) := by decide +kernel
theorem dX6_digest_146 : decode cX6_digest 146 = .ok (.ldc2_w 297, 3) := by decide +kernel
theorem dX6_digest_149 : decode cX6_digest 149 = .ok (.lload_n 1, 1) := by decide +kernel
theorem dX6_digest_150 : decode cX6_digest 150 = .ok (.lmul, 1) := by decide +kernel
theorem dX6_digest_151 : decode cX6_digest 151 = .ok (.aload_n 0, 1) := by decide +kernel
theorem dX6_digest_152 : decode cX6_digest 152 = .ok (.iload_n 3, 1) := by decide +kernel
theorem dX6_digest_153 : decode cX6_digest 153 = .ok (.iload 4, 2) := by decide +kernel
theorem dX6_digest_155 : decode cX6_digest 155 = .ok (.iconst 1, 1) := by decide +kernel
theorem dX6_digest_156 : decode cX6_digest 156 = .ok (.invokevirtual 312, 3) := by decide +kernel
theorem dX6_digest_159 : decode cX6_digest 159 = .ok (.i2l, 1) := by decide +kernel
theorem dX6_digest_160 : decode cX6_digest 160 = .ok (.ladd, 1) := by decide +kernel
theorem dX6_digest_161 : decode cX6_digest 161 = .ok (.lstore_n 1, 1) := by decide +kernel
theorem dX6_digest_162 : decode cX6_digest 162 = .ok (.ldc2_w 297, 3) := by decide +kernel
theorem dX6_digest_165 : decode cX6_digest 165 = .ok (.lload_n 1, 1) := by decide +kernel
theorem dX6_digest_166 : decode cX6_digest 166 = .ok (.lmul, 1) := by decide +kernel
theorem dX6_digest_167 : decode cX6_digest 167 = .ok (.aload_n 0, 1) := by decide +kernel
theorem dX6_digest_168 : decode cX6_digest 168 = .ok (.iload_n 3, 1) := by decide +kernel
theorem dX6_digest_169 : decode cX6_digest 169 = .ok (.iload 4, 2) := by decide +kernel
theorem dX6_digest_171 : decode cX6_digest 171 = .ok (.invokevirtual 315, 3) := by decide +kernel
theorem dX6_digest_174 : decode cX6_digest 174 = .ok (.i2l, 1) := by decide +kernel
theorem dX6_digest_175 : decode cX6_digest 175 = .ok (.ladd, 1) := by decide +kernel
theorem dX6_digest_176 : decode cX6_digest 176 = .ok (.lstore_n 1, 1) := by decide +kernel
theorem dX6_digest_177 : decode cX6_digest 177 = .ok (.iinc 4 1, 3) := by decide +kernel
theorem dX6_digest_180 : decode cX6_digest 180 = .ok (.goto (-56), 3) := by decide +kernel
theorem dX6_digest_183 : decode cX6_digest 183 = .ok (.iinc 3 1, 3) := by decide +kernel
theorem dX6_digest_186 : decode cX6_digest 186 = .ok (.goto (-70), 3) := by decide +kernel
theorem dX6_digest_189 : decode cX6_digest 189 = .ok (.iconst 0, 1) := by decide +kernel
theorem dX6_digest_190 : decode cX6_digest 190 = .ok (.istore_n 3, 1) := by decide +kernel
theorem dX6_digest_191 : decode cX6_digest 191 = .ok (.iload_n 3, 1) := by decide +kernel
theorem dX6_digest_192 : decode cX6_digest 192 = .ok (.bipush 24, 2) := by decide +kernel
theorem dX6_digest_194 : decode cX6_digest 194 = .ok (.if_icmp .ge 22, 3) := by decide +kernel
theorem dX6_digest_197 : decode cX6_digest 197 = .ok (.ldc2_w 297, 3) := by decide +kernel
theorem dX6_digest_200 : decode cX6_digest 200 = .ok (.lload_n 1, 1) := by decide +kernel
theorem dX6_digest_201 : decode cX6_digest 201 = .ok (.lmul, 1) := by decide +kernel
theorem dX6_digest_202 : decode cX6_digest 202 = .ok (.aload_n 0, 1) := by decide +kernel
theorem dX6_digest_203 : decode cX6_digest 203 = .ok (.iload_n 3, 1) := by decide +kernel
theorem dX6_digest_204 : decode cX6_digest 204 = .ok (.iconst 0, 1) := by decide +kernel
theorem dX6_digest_205 : decode cX6_digest 205 = .ok (.invokevirtual 318, 3) := by decide +kernel
theorem dX6_digest_208 : decode cX6_digest 208 = .ok (.ladd, 1) := by decide +kernel
theorem dX6_digest_209 : decode cX6_digest 209 = .ok (.lstore_n 1, 1) := by decide +kernel
theorem dX6_digest_210 : decode cX6_digest 210 = .ok (.iinc 3 1, 3) := by decide +kernel
theorem dX6_digest_213 : decode cX6_digest 213 = .ok (.goto (-22), 3) := by decide +kernel
theorem dX6_digest_216 : decode cX6_digest 216 = .ok (.lload_n 1, 1) := by decide +kernel
theorem dX6_digest_217 : decode cX6_digest 217 = .ok (.lreturn, 1) := by decide +kernel
theorem dX6_isDesign_0 : decode cX6_isDesign 0 = .ok (.iload_n 0, 1) := by decide +kernel
theorem dX6_isDesign_1 : decode cX6_isDesign 1 = .ok (.ifCond .lt 12, 3) := by decide +kernel
theorem dX6_isDesign_4 : decode cX6_isDesign 4 = .ok (.iload_n 0, 1) := by decide +kernel
theorem dX6_isDesign_5 : decode cX6_isDesign 5 = .ok (.iconst 4, 1) := by decide +kernel
theorem dX6_isDesign_6 : decode cX6_isDesign 6 = .ok (.if_icmp .ge 7, 3) := by decide +kernel
theorem dX6_isDesign_9 : decode cX6_isDesign 9 = .ok (.iconst 1, 1) := by decide +kernel
theorem dX6_isDesign_10 : decode cX6_isDesign 10 = .ok (.goto 4, 3) := by decide +kernel
theorem dX6_isDesign_13 : decode cX6_isDesign 13 = .ok (.iconst 0, 1) := by decide +kernel
theorem dX6_isDesign_14 : decode cX6_isDesign 14 = .ok (.ireturn, 1) := by decide +kernel
theorem dX6_isPerson_0 : decode cX6_isPerson 0 = .ok (.iload_n 0, 1) := by decide +kernel
theorem dX6_isPerson_1 : decode cX6_isPerson 1 = .ok (.ifCond .lt 13, 3) := by decide +kernel
theorem dX6_isPerson_4 : decode cX6_isPerson 4 = .ok (.iload_n 0, 1) := by decide +kernel
theorem dX6_isPerson_5 : decode cX6_isPerson 5 = .ok (.bipush 24, 2) := by decide +kernel
theorem dX6_isPerson_7 : decode cX6_isPerson 7 = .ok (.if_icmp .ge 7, 3) := by decide +kernel
theorem dX6_isPerson_10 : decode cX6_isPerson 10 = .ok (.iconst 1, 1) := by decide +kernel
theorem dX6_isPerson_11 : decode cX6_isPerson 11 = .ok (.goto 4, 3) := by decide +kernel
theorem dX6_isPerson_14 : decode cX6_isPerson 14 = .ok (.iconst 0, 1) := by decide +kernel
theorem dX6_isPerson_15 : decode cX6_isPerson 15 = .ok (.ireturn, 1) := by decide +kernel
theorem dX6_isGroup_0 : decode cX6_isGroup 0 = .ok (.iload_n 0, 1) := by decide +kernel
theorem dX6_isGroup_1 : decode cX6_isGroup 1 = .ok (.ifCond .lt 12, 3) := by decide +kernel
theorem dX6_isGroup_4 : decode cX6_isGroup 4 = .ok (.iload_n 0, 1) := by decide +kernel
theorem dX6_isGroup_5 : decode cX6_isGroup 5 = .ok (.iconst 4, 1) := by decide +kernel
theorem dX6_isGroup_6 : decode cX6_isGroup 6 = .ok (.if_icmp .ge 7, 3) := by decide +kernel
theorem dX6_isGroup_9 : decode cX6_isGroup 9 = .ok (.iconst 1, 1) := by decide +kernel
theorem dX6_isGroup_10 : decode cX6_isGroup 10 = .ok (.goto 4, 3) := by decide +kernel
theorem dX6_isGroup_13 : decode cX6_isGroup 13 = .ok (.iconst 0, 1) := by decide +kernel
theorem dX6_isGroup_14 : decode cX6_isGroup 14 = .ok (.ireturn, 1) := by decide +kernel
theorem dX6_isSheet_0 : decode cX6_isSheet 0 = .ok (.iload_n 0, 1) := by decide +kernel
theorem dX6_isSheet_1 : decode cX6_isSheet 1 = .ok (.ifCond .lt 12, 3) := by decide +kernel
theorem dX6_isSheet_4 : decode cX6_isSheet 4 = .ok (.iload_n 0, 1) := by decide +kernel
theorem dX6_isSheet_5 : decode cX6_isSheet 5 = .ok (.iconst 4, 1) := by decide +kernel
theorem dX6_isSheet_6 : decode cX6_isSheet 6 = .ok (.if_icmp .ge 7, 3) := by decide +kernel
theorem dX6_isSheet_9 : decode cX6_isSheet 9 = .ok (.iconst 1, 1) := by decide +kernel
theorem dX6_isSheet_10 : decode cX6_isSheet 10 = .ok (.goto 4, 3) := by decide +kernel
theorem dX6_isSheet_13 : decode cX6_isSheet 13 = .ok (.iconst 0, 1) := by decide +kernel
theorem dX6_isSheet_14 : decode cX6_isSheet 14 = .ok (.ireturn, 1) := by decide +kernel
theorem dX6_isType_0 : decode cX6_isType 0 = .ok (.iload_n 0, 1) := by decide +kernel
theorem dX6_isType_1 : decode cX6_isType 1 = .ok (.ifCond .lt 12, 3) := by decide +kernel
theorem dX6_isType_4 : decode cX6_isType 4 = .ok (.iload_n 0, 1) := by decide +kernel
theorem dX6_isType_5 : decode cX6_isType 5 = .ok (.iconst 3, 1) := by decide +kernel
theorem dX6_isType_6 : decode cX6_isType 6 = .ok (.if_icmp .ge 7, 3) := by decide +kernel
theorem dX6_isType_9 : decode cX6_isType 9 = .ok (.iconst 1, 1) := by decide +kernel
theorem dX6_isType_10 : decode cX6_isType 10 = .ok (.goto 4, 3) := by decide +kernel
theorem dX6_isType_13 : decode cX6_isType 13 = .ok (.iconst 0, 1) := by decide +kernel
theorem dX6_isType_14 : decode cX6_isType 14 = .ok (.ireturn, 1) := by decide +kernel
theorem dX6_isEither_0 : decode cX6_isEither 0 = .ok (.iload_n 0, 1) := by decide +kernel
theorem dX6_isEither_1 : decode cX6_isEither 1 = .ok (.ifCond .eq 8, 3) := by decide +kernel
theorem dX6_isEither_4 : decode cX6_isEither 4 = .ok (.iload_n 0, 1) := by decide +kernel
theorem dX6_isEither_5 : decode cX6_isEither 5 = .ok (.iconst 1, 1) := by decide +kernel
theorem dX6_isEither_6 : decode cX6_isEither 6 = .ok (.if_icmp .ne 7, 3) := by decide +kernel
theorem dX6_isEither_9 : decode cX6_isEither 9 = .ok (.iconst 1, 1) := by decide +kernel
theorem dX6_isEither_10 : decode cX6_isEither 10 = .ok (.goto 4, 3) := by decide +kernel
theorem dX6_isEither_13 : decode cX6_isEither 13 = .ok (.iconst 0, 1) := by decide +kernel
theorem dX6_isEither_14 : decode cX6_isEither 14 = .ok (.ireturn, 1) := by decide +kernel
theorem dX6_asLong_0 : decode cX6_asLong 0 = .ok (.ldc2_w 323, 3) := by decide +kernel
theorem dX6_asLong_3 : decode cX6_asLong 3 = .ok (.iload_n 0, 1) := by decide +kernel
theorem dX6_asLong_4 : decode cX6_asLong 4 = .ok (.i2l, 1) := by decide +kernel
theorem dX6_asLong_5 : decode cX6_asLong 5 = .ok (.lsub, 1) := by decide +kernel
theorem dX6_asLong_6 : decode cX6_asLong 6 = .ok (.lreturn, 1) := by decide +kernel
theorem dX6_found_0 : decode cX6_found 0 = .ok (.aload_n 0, 1) := by decide +kernel
theorem dX6_found_1 : decode cX6_found 1 = .ok (.iload_n 1, 1) := by decide +kernel
theorem dX6_found_2 : decode cX6_found 2 = .ok (.putfield 66, 3) := by decide +kernel
theorem dX6_found_5 : decode cX6_found 5 = .ok (.bipush (-10), 2) := by decide +kernel
theorem dX6_found_7 : decode cX6_found 7 = .ok (.iload_n 1, 1) := by decide +kernel
theorem dX6_found_8 : decode cX6_found 8 = .ok (.isub, 1) := by decide +kernel
theorem dX6_found_9 : decode cX6_found 9 = .ok (.ireturn, 1) := by decide +kernel
theorem dX6_itemFinding_0 : decode cX6_itemFinding 0 = .ok (.aload_n 0, 1) := by decide +kernel
theorem dX6_itemFinding_1 : decode cX6_itemFinding 1 = .ok (.invokevirtual 131, 3) := by decide +kernel
theorem dX6_itemFinding_4 : decode cX6_itemFinding 4 = .ok (.ifCond .eq 5, 3) := by decide +kernel
theorem dX6_itemFinding_7 : decode cX6_itemFinding 7 = .ok (.iconst 1, 1) := by decide +kernel
theorem dX6_itemFinding_8 : decode cX6_itemFinding 8 = .ok (.ireturn, 1) := by decide +kernel
theorem dX6_itemFinding_9 : decode cX6_itemFinding 9 = .ok (.aload_n 0, 1) := by decide +kernel
theorem dX6_itemFinding_10 : decode cX6_itemFinding 10 = .ok (.getfield 275, 3) := by decide +kernel
theorem dX6_itemFinding_13 : decode cX6_itemFinding 13 = .ok (.iload_n 1, 1) := by decide +kernel
theorem dX6_itemFinding_14 : decode cX6_itemFinding 14 = .ok (.if_icmp .eq 5, 3) := by decide +kernel
theorem dX6_itemFinding_17 : decode cX6_itemFinding 17 = .ok (.iconst 3, 1) := by decide +kernel
theorem dX6_itemFinding_18 : decode cX6_itemFinding 18 = .ok (.ireturn, 1) := by decide +kernel
theorem dX6_itemFinding_19 : decode cX6_itemFinding 19 = .ok (.aload_n 0, 1) := by decide +kernel
theorem dX6_itemFinding_20 : decode cX6_itemFinding 20 = .ok (.iload_n 2, 1) := by decide +kernel
theorem dX6_itemFinding_21 : decode cX6_itemFinding 21 = .ok (.iconst 1, 1) := by decide +kernel
theorem dX6_itemFinding_22 : decode cX6_itemFinding 22 = .ok (.invokevirtual 278, 3) := by decide +kernel
theorem dX6_itemFinding_25 : decode cX6_itemFinding 25 = .ok (.ifCond .eq 7, 3) := by decide +kernel
theorem dX6_itemFinding_28 : decode cX6_itemFinding 28 = .ok (.iconst 0, 1) := by decide +kernel
theorem dX6_itemFinding_29 : decode cX6_itemFinding 29 = .ok (.goto 4, 3) := by decide +kernel
theorem dX6_itemFinding_32 : decode cX6_itemFinding 32 = .ok (.iconst 2, 1) := by decide +kernel
theorem dX6_itemFinding_33 : decode cX6_itemFinding 33 = .ok (.ireturn, 1) := by decide +kernel
theorem dX6_estimateRefusal_0 : decode cX6_estimateRefusal 0 = .ok (.iload_n 1, 1) := by decide +kernel
theorem dX6_estimateRefusal_1 : decode cX6_estimateRefusal 1 = .ok (.invokestatic 121, 3) := by decide +kernel
theorem dX6_estimateRefusal_4 : decode cX6_estimateRefusal 4 = .ok (.ifCond .eq 17, 3) := by decide +kernel
theorem dX6_estimateRefusal_7 : decode cX6_estimateRefusal 7 = .ok (.iload_n 2, 1) := by decide +kernel
theorem dX6_estimateRefusal_8 : decode cX6_estimateRefusal 8 = .ok (.invokestatic 71, 3) := by decide +kernel
theorem dX6_estimateRefusal_11 : decode cX6_estimateRefusal 11 = .ok (.ifCond .eq 10, 3) := by decide +kernel
theorem dX6_estimateRefusal_14 : decode cX6_estimateRefusal 14 = .ok (.iload_n 3, 1) := by decide +kernel
theorem dX6_estimateRefusal_15 : decode cX6_estimateRefusal 15 = .ok (.invokestatic 91, 3) := by decide +kernel
theorem dX6_estimateRefusal_18 : decode cX6_estimateRefusal 18 = .ok (.ifCond .ne 6, 3) := by decide +kernel
theorem dX6_estimateRefusal_21 : decode cX6_estimateRefusal 21 = .ok (.bipush (-2), 2) := by decide +kernel
theorem dX6_estimateRefusal_23 : decode cX6_estimateRefusal 23 = .ok (.ireturn, 1) := by decide +kernel
theorem dX6_estimateRefusal_24 : decode cX6_estimateRefusal 24 = .ok (.aload_n 0, 1) := by decide +kernel
theorem dX6_estimateRefusal_25 : decode cX6_estimateRefusal 25 = .ok (.iload_n 1, 1) := by decide +kernel
theorem dX6_estimateRefusal_26 : decode cX6_estimateRefusal 26 = .ok (.iload_n 2, 1) := by decide +kernel
theorem dX6_estimateRefusal_27 : decode cX6_estimateRefusal 27 = .ok (.invokevirtual 168, 3) := by decide +kernel
theorem dX6_estimateRefusal_30 : decode cX6_estimateRefusal 30 = .ok (.aload_n 0, 1) := by decide +kernel
theorem dX6_estimateRefusal_31 : decode cX6_estimateRefusal 31 = .ok (.getfield 11, 3) := by decide +kernel
theorem dX6_estimateRefusal_34 : decode cX6_estimateRefusal 34 = .ok (.iload_n 2, 1) := by decide +kernel
theorem dX6_estimateRefusal_35 : decode cX6_estimateRefusal 35 = .ok (.aaload, 1) := by decide +kernel
theorem dX6_estimateRefusal_36 : decode cX6_estimateRefusal 36 = .ok (.astore 5, 2) := by decide +kernel
theorem dX6_estimateRefusal_38 : decode cX6_estimateRefusal 38 = .ok (.aload 5, 2) := by decide +kernel
theorem dX6_estimateRefusal_40 : decode cX6_estimateRefusal 40 = .ok (.invokevirtual 98, 3) := by decide +kernel
theorem dX6_estimateRefusal_43 : decode cX6_estimateRefusal 43 = .ok (.ifCond .ne 23, 3) := by decide +kernel
theorem dX6_estimateRefusal_46 : decode cX6_estimateRefusal 46 = .ok (.aload 5, 2) := by decide +kernel
theorem dX6_estimateRefusal_48 : decode cX6_estimateRefusal 48 = .ok (.invokevirtual 249, 3) := by decide +kernel
theorem dX6_estimateRefusal_51 : decode cX6_estimateRefusal 51 = .ok (.ifCond .eq 15, 3) := by decide +kernel
theorem dX6_estimateRefusal_54 : decode cX6_estimateRefusal 54 = .ok (.aload_n 0, 1) := by decide +kernel
theorem dX6_estimateRefusal_55 : decode cX6_estimateRefusal 55 = .ok (.getfield 35, 3) := by decide +kernel
theorem dX6_estimateRefusal_58 : decode cX6_estimateRefusal 58 = .ok (.getfield 172, 3) := by decide +kernel
theorem dX6_estimateRefusal_61 : decode cX6_estimateRefusal 61 = .ok (.iload 4, 2) := by decide +kernel
theorem dX6_estimateRefusal_63 : decode cX6_estimateRefusal 63 = .ok (.if_icmp .ge 8, 3) := by decide +kernel
theorem dX6_estimateRefusal_66 : decode cX6_estimateRefusal 66 = .ok (.bipush (-3), 2) := by decide +kernel
theorem dX6_estimateRefusal_68 : decode cX6_estimateRefusal 68 = .ok (.goto 4, 3) := by decide +kernel
theorem dX6_estimateRefusal_71 : decode cX6_estimateRefusal 71 = .ok (.iconst 0, 1) := by decide +kernel
theorem dX6_estimateRefusal_72 : decode cX6_estimateRefusal 72 = .ok (.ireturn, 1) := by decide +kernel
theorem dX6_lotsRefusal_0 : decode cX6_lotsRefusal 0 = .ok (.iload_n 1, 1) := by decide +kernel
theorem dX6_lotsRefusal_1 : decode cX6_lotsRefusal 1 = .ok (.invokestatic 121, 3) := by decide +kernel
theorem dX6_lotsRefusal_4 : decode cX6_lotsRefusal 4 = .ok (.ifCond .eq 14, 3) := by decide +kernel
theorem dX6_lotsRefusal_7 : decode cX6_lotsRefusal 7 = .ok (.iload_n 2, 1) := by decide +kernel
theorem dX6_lotsRefusal_8 : decode cX6_lotsRefusal 8 = .ok (.invokestatic 71, 3) := by decide +kernel
theorem dX6_lotsRefusal_11 : decode cX6_lotsRefusal 11 = .ok (.ifCond .eq 7, 3) := by decide +kernel
theorem dX6_lotsRefusal_14 : decode cX6_lotsRefusal 14 = .ok (.iload_n 3, 1) := by decide +kernel
theorem dX6_lotsRefusal_15 : decode cX6_lotsRefusal 15 = .ok (.ifCond .ge 6, 3) := by decide +kernel
theorem dX6_lotsRefusal_18 : decode cX6_lotsRefusal 18 = .ok (.bipush (-2), 2) := by decide +kernel
theorem dX6_lotsRefusal_20 : decode cX6_lotsRefusal 20 = .ok (.ireturn, 1) := by decide +kernel
theorem dX6_lotsRefusal_21 : decode cX6_lotsRefusal 21 = .ok (.aload_n 0, 1) := by decide +kernel
theorem dX6_lotsRefusal_22 : decode cX6_lotsRefusal 22 = .ok (.iload_n 1, 1) := by decide +kernel
theorem dX6_lotsRefusal_23 : decode cX6_lotsRefusal 23 = .ok (.iload_n 2, 1) := by decide +kernel
theorem dX6_lotsRefusal_24 : decode cX6_lotsRefusal 24 = .ok (.invokevirtual 168, 3) := by decide +kernel
theorem dX6_lotsRefusal_27 : decode cX6_lotsRefusal 27 = .ok (.aload_n 0, 1) := by decide +kernel
theorem dX6_lotsRefusal_28 : decode cX6_lotsRefusal 28 = .ok (.getfield 11, 3) := by decide +kernel
theorem dX6_lotsRefusal_31 : decode cX6_lotsRefusal 31 = .ok (.iload_n 2, 1) := by decide +kernel
theorem dX6_lotsRefusal_32 : decode cX6_lotsRefusal 32 = .ok (.aaload, 1) := by decide +kernel
theorem dX6_lotsRefusal_33 : decode cX6_lotsRefusal 33 = .ok (.astore 4, 2) := by decide +kernel
theorem dX6_lotsRefusal_35 : decode cX6_lotsRefusal 35 = .ok (.aload 4, 2) := by decide +kernel
theorem dX6_lotsRefusal_37 : decode cX6_lotsRefusal 37 = .ok (.invokevirtual 98, 3) := by decide +kernel
theorem dX6_lotsRefusal_40 : decode cX6_lotsRefusal 40 = .ok (.ifCond .ne 14, 3) := by decide +kernel
theorem dX6_lotsRefusal_43 : decode cX6_lotsRefusal 43 = .ok (.iload_n 3, 1) := by decide +kernel
theorem dX6_lotsRefusal_44 : decode cX6_lotsRefusal 44 = .ok (.aload_n 0, 1) := by decide +kernel
theorem dX6_lotsRefusal_45 : decode cX6_lotsRefusal 45 = .ok (.getfield 35, 3) := by decide +kernel
theorem dX6_lotsRefusal_48 : decode cX6_lotsRefusal 48 = .ok (.getfield 172, 3) := by decide +kernel
theorem dX6_lotsRefusal_51 : decode cX6_lotsRefusal 51 = .ok (.if_icmp .le 6, 3) := by decide +kernel
theorem dX6_lotsRefusal_54 : decode cX6_lotsRefusal 54 = .ok (.bipush (-3), 2) := by decide +kernel
theorem dX6_lotsRefusal_56 : decode cX6_lotsRefusal 56 = .ok (.ireturn, 1) := by decide +kernel
theorem dX6_lotsRefusal_57 : decode cX6_lotsRefusal 57 = .ok (.aload_n 0, 1) := by decide +kernel
theorem dX6_lotsRefusal_58 : decode cX6_lotsRefusal 58 = .ok (.getfield 35, 3) := by decide +kernel
theorem dX6_lotsRefusal_61 : decode cX6_lotsRefusal 61 = .ok (.getfield 172, 3) := by decide +kernel
theorem dX6_lotsRefusal_64 : decode cX6_lotsRefusal 64 = .ok (.bipush 12, 2) := by decide +kernel
theorem dX6_lotsRefusal_66 : decode cX6_lotsRefusal 66 = .ok (.if_icmp .gt 11, 3) := by decide +kernel
theorem dX6_lotsRefusal_69 : decode cX6_lotsRefusal 69 = .ok (.aload 4, 2) := by decide +kernel
theorem dX6_lotsRefusal_71 : decode cX6_lotsRefusal 71 = .ok (.invokevirtual 325, 3) := by decide +kernel
theorem dX6_lotsRefusal_74 : decode cX6_lotsRefusal 74 = .ok (.ifCond .eq 8, 3) := by decide +kernel
theorem dX6_lotsRefusal_77 : decode cX6_lotsRefusal 77 = .ok (.bipush (-4), 2) := by decide +kernel
theorem dX6_lotsRefusal_79 : decode cX6_lotsRefusal 79 = .ok (.goto 4, 3) := by decide +kernel
theorem dX6_lotsRefusal_82 : decode cX6_lotsRefusal 82 = .ok (.iconst 0, 1) := by decide +kernel
theorem dX6_lotsRefusal_83 : decode cX6_lotsRefusal 83 = .ok (.ireturn, 1) := by decide +kernel
theorem dX6_bytesOfDesigns_0 : decode cX6_bytesOfDesigns 0 = .ok (.iconst 0, 1) := by decide +kernel
theorem dX6_bytesOfDesigns_1 : decode cX6_bytesOfDesigns 1 = .ok (.istore_n 1, 1) := by decide +kernel
theorem dX6_bytesOfDesigns_2 : decode cX6_bytesOfDesigns 2 = .ok (.iconst 0, 1) := by decide +kernel
theorem dX6_bytesOfDesigns_3 : decode cX6_bytesOfDesigns 3 = .ok (.istore_n 2, 1) := by decide +kernel
theorem dX6_bytesOfDesigns_4 : decode cX6_bytesOfDesigns 4 = .ok (.iload_n 2, 1) := by decide +kernel
theorem dX6_bytesOfDesigns_5 : decode cX6_bytesOfDesigns 5 = .ok (.iconst 4, 1) := by decide +kernel
theorem dX6_bytesOfDesigns_6 : decode cX6_bytesOfDesigns 6 = .ok (.if_icmp .ge 21, 3) := by decide +kernel
theorem dX6_bytesOfDesigns_9 : decode cX6_bytesOfDesigns 9 = .ok (.iload_n 1, 1) := by decide +kernel
theorem dX6_bytesOfDesigns_10 : decode cX6_bytesOfDesigns 10 = .ok (.aload_n 0, 1) := by decide +kernel
theorem dX6_bytesOfDesigns_11 : decode cX6_bytesOfDesigns 11 = .ok (.getfield 11, 3) := by decide +kernel
theorem dX6_bytesOfDesigns_14 : decode cX6_bytesOfDesigns 14 = .ok (.iload_n 2, 1) := by decide +kernel
theorem dX6_bytesOfDesigns_15 : decode cX6_bytesOfDesigns 15 = .ok (.aaload, 1) := by decide +kernel
theorem dX6_bytesOfDesigns_16 : decode cX6_bytesOfDesigns 16 = .ok (.getfield 82, 3) := by decide +kernel
theorem dX6_bytesOfDesigns_19 : decode cX6_bytesOfDesigns 19 = .ok (.iadd, 1) := by decide +kernel
theorem dX6_bytesOfDesigns_20 : decode cX6_bytesOfDesigns 20 = .ok (.istore_n 1, 1) := by decide +kernel
theorem dX6_bytesOfDesigns_21 : decode cX6_bytesOfDesigns 21 = .ok (.iinc 2 1, 3) := by decide +kernel
theorem dX6_bytesOfDesigns_24 : decode cX6_bytesOfDesigns 24 = .ok (.goto (-20), 3) := by decide +kernel
theorem dX6_bytesOfDesigns_27 : decode cX6_bytesOfDesigns 27 = .ok (.iload_n 1, 1) := by decide +kernel
theorem dX6_bytesOfDesigns_28 : decode cX6_bytesOfDesigns 28 = .ok (.ireturn, 1) := by decide +kernel
theorem dX6_dayOfView_0 : decode cX6_dayOfView 0 = .ok (.aload_n 0, 1) := by decide +kernel
theorem dX6_dayOfView_1 : decode cX6_dayOfView 1 = .ok (.getfield 57, 3) := by decide +kernel
theorem dX6_dayOfView_4 : decode cX6_dayOfView 4 = .ok (.iconst (-1), 1) := by decide +kernel
theorem dX6_dayOfView_5 : decode cX6_dayOfView 5 = .ok (.if_icmp .ne 10, 3) := by decide +kernel
theorem dX6_dayOfView_8 : decode cX6_dayOfView 8 = .ok (.aload_n 0, 1) := by decide +kernel
theorem dX6_dayOfView_9 : decode cX6_dayOfView 9 = .ok (.getfield 53, 3) := by decide +kernel
theorem dX6_dayOfView_12 : decode cX6_dayOfView 12 = .ok (.goto 7, 3) := by decide +kernel
theorem dX6_dayOfView_15 : decode cX6_dayOfView 15 = .ok (.aload_n 0, 1) := by decide +kernel
theorem dX6_dayOfView_16 : decode cX6_dayOfView 16 = .ok (.getfield 57, 3) := by decide +kernel
theorem dX6_dayOfView_19 : decode cX6_dayOfView 19 = .ok (.ireturn, 1) := by decide +kernel
theorem dX6_takePoll_0 : decode cX6_takePoll 0 = .ok (.aload_n 0, 1) := by decide +kernel
theorem dX6_takePoll_1 : decode cX6_takePoll 1 = .ok (.getfield 35, 3) := by decide +kernel
theorem dX6_takePoll_4 : decode cX6_takePoll 4 = .ok (.invokevirtual 328, 3) := by decide +kernel
theorem dX6_takePoll_7 : decode cX6_takePoll 7 = .ok (.aload_n 0, 1) := by decide +kernel
theorem dX6_takePoll_8 : decode cX6_takePoll 8 = .ok (.invokevirtual 160, 3) := by decide +kernel
theorem dX6_takePoll_11 : decode cX6_takePoll 11 = .ok (.istore_n 3, 1) := by decide +kernel
theorem dX6_takePoll_12 : decode cX6_takePoll 12 = .ok (.iconst 0, 1) := by decide +kernel
theorem dX6_takePoll_13 : decode cX6_takePoll 13 = .ok (.istore 4, 2) := by decide +kernel
theorem dX6_takePoll_15 : decode cX6_takePoll 15 = .ok (.iload 4, 2) := by decide +kernel
theorem dX6_takePoll_17 : decode cX6_takePoll 17 = .ok (.aload_n 0, 1) := by decide +kernel
theorem dX6_takePoll_18 : decode cX6_takePoll 18 = .ok (.getfield 28, 3) := by decide +kernel
theorem dX6_takePoll_21 : decode cX6_takePoll 21 = .ok (.getfield 287, 3) := by decide +kernel
theorem dX6_takePoll_24 : decode cX6_takePoll 24 = .ok (.if_icmp .ge 78, 3) := by decide +kernel
theorem dX6_takePoll_27 : decode cX6_takePoll 27 = .ok (.aload_n 0, 1) := by decide +kernel
theorem dX6_takePoll_28 : decode cX6_takePoll 28 = .ok (.getfield 28, 3) := by decide +kernel
theorem dX6_takePoll_31 : decode cX6_takePoll 31 = .ok (.getfield 148, 3) := by decide +kernel
theorem dX6_takePoll_34 : decode cX6_takePoll 34 = .ok (.iload 4, 2) := by decide +kernel
theorem dX6_takePoll_36 : decode cX6_takePoll 36 = .ok (.iaload, 1) := by decide +kernel
theorem dX6_takePoll_37 : decode cX6_takePoll 37 = .ok (.istore 5, 2) := by decide +kernel
theorem dX6_takePoll_39 : decode cX6_takePoll 39 = .ok (.aload_n 0, 1) := by decide +kernel
theorem dX6_takePoll_40 : decode cX6_takePoll 40 = .ok (.getfield 28, 3) := by decide +kernel
theorem dX6_takePoll_43 : decode cX6_takePoll 43 = .ok (.getfield 151, 3) := by decide +kernel
theorem dX6_takePoll_46 : decode cX6_takePoll 46 = .ok (.iload 4, 2) := by decide +kernel
theorem dX6_takePoll_48 : decode cX6_takePoll 48 = .ok (.iaload, 1) := by decide +kernel
theorem dX6_takePoll_49 : decode cX6_takePoll 49 = .ok (.iload_n 2, 1) := by decide +kernel
theorem dX6_takePoll_50 : decode cX6_takePoll 50 = .ok (.if_icmp .ne 46, 3) := by decide +kernel
theorem dX6_takePoll_53 : decode cX6_takePoll 53 = .ok (.aload_n 0, 1) := by decide +kernel
theorem dX6_takePoll_54 : decode cX6_takePoll 54 = .ok (.getfield 21, 3) := by decide +kernel
theorem dX6_takePoll_57 : decode cX6_takePoll 57 = .ok (.iload 5, 2) := by decide +kernel
theorem dX6_takePoll_59 : decode cX6_takePoll 59 = .ok (.iaload, 1) := by decide +kernel
theorem dX6_takePoll_60 : decode cX6_takePoll 60 = .ok (.iload_n 1, 1) := by decide +kernel
theorem dX6_takePoll_61 : decode cX6_takePoll 61 = .ok (.if_icmp .ne 35, 3) := by decide +kernel
theorem dX6_takePoll_64 : decode cX6_takePoll 64 = .ok (.aload_n 0, 1) := by decide +kernel
theorem dX6_takePoll_65 : decode cX6_takePoll 65 = .ok (.getfield 28, 3) := by decide +kernel
theorem dX6_takePoll_68 : decode cX6_takePoll 68 = .ok (.iload 4, 2) := by decide +kernel
theorem dX6_takePoll_70 : decode cX6_takePoll 70 = .ok (.iload_n 3, 1) := by decide +kernel
theorem dX6_takePoll_71 : decode cX6_takePoll 71 = .ok (.invokevirtual 164, 3) := by decide +kernel
theorem dX6_takePoll_74 : decode cX6_takePoll 74 = .ok (.ifCond .eq 22, 3) := by decide +kernel
theorem dX6_takePoll_77 : decode cX6_takePoll 77 = .ok (.aload_n 0, 1) := by decide +kernel
theorem dX6_takePoll_78 : decode cX6_takePoll 78 = .ok (.getfield 35, 3) := by decide +kernel
theorem dX6_takePoll_81 : decode cX6_takePoll 81 = .ok (.iload 5, 2) := by decide +kernel
theorem dX6_takePoll_83 : decode cX6_takePoll 83 = .ok (.aload_n 0, 1) := by decide +kernel
theorem dX6_takePoll_84 : decode cX6_takePoll 84 = .ok (.getfield 28, 3) := by decide +kernel
theorem dX6_takePoll_87 : decode cX6_takePoll 87 = .ok (.getfield 154, 3) := by decide +kernel
theorem dX6_takePoll_90 : decode cX6_takePoll 90 = .ok (.iload 4, 2) := by decide +kernel
theorem dX6_takePoll_92 : decode cX6_takePoll 92 = .ok (.iaload, 1) := by decide +kernel
theorem dX6_takePoll_93 : decode cX6_takePoll 93 = .ok (.invokevirtual 330, 3) := by decide +kernel
theorem dX6_takePoll_96 : decode cX6_takePoll 96 = .ok (.iinc 4 1, 3) := by decide +kernel
theorem dX6_takePoll_99 : decode cX6_takePoll 99 = .ok (.goto (-84), 3) := by decide +kernel
theorem dX6_takePoll_102 : decode cX6_takePoll 102 = .ok (.return_, 1) := by decide +kernel
theorem dX6_waysOf_0 : decode cX6_waysOf 0 = .ok (.aload_n 0, 1) := by decide +kernel
theorem dX6_waysOf_1 : decode cX6_waysOf 1 = .ok (.getfield 42, 3) := by decide +kernel
theorem dX6_waysOf_4 : decode cX6_waysOf 4 = .ok (.aload_n 1, 1) := by decide +kernel
theorem dX6_waysOf_5 : decode cX6_waysOf 5 = .ok (.aload_n 0, 1) := by decide +kernel
theorem dX6_waysOf_6 : decode cX6_waysOf 6 = .ok (.getfield 35, 3) := by decide +kernel
theorem dX6_waysOf_9 : decode cX6_waysOf 9 = .ok (.getfield 172, 3) := by decide +kernel
theorem dX6_waysOf_12 : decode cX6_waysOf 12 = .ok (.iload_n 2, 1) := by decide +kernel
theorem dX6_waysOf_13 : decode cX6_waysOf 13 = .ok (.invokevirtual 198, 3) := by decide +kernel
theorem dX6_waysOf_16 : decode cX6_waysOf 16 = .ok (.aload_n 0, 1) := by decide +kernel
theorem dX6_waysOf_17 : decode cX6_waysOf 17 = .ok (.getfield 42, 3) := by decide +kernel
theorem dX6_waysOf_20 : decode cX6_waysOf 20 = .ok (.aload_n 0, 1) := by decide +kernel
theorem dX6_waysOf_21 : decode cX6_waysOf 21 = .ok (.getfield 35, 3) := by decide +kernel
theorem dX6_waysOf_24 : decode cX6_waysOf 24 = .ok (.getfield 174, 3) := by decide +kernel
theorem dX6_waysOf_27 : decode cX6_waysOf 27 = .ok (.aload_n 0, 1) := by decide +kernel
theorem dX6_waysOf_28 : decode cX6_waysOf 28 = .ok (.getfield 35, 3) := by decide +kernel
theorem dX6_waysOf_31 : decode cX6_waysOf 31 = .ok (.getfield 174, 3) := by decide +kernel
theorem dX6_waysOf_34 : decode cX6_waysOf 34 = .ok (.invokevirtual 202, 3) := by decide +kernel
theorem dX6_waysOf_37 : decode cX6_waysOf 37 = .ok (.lreturn, 1) := by decide +kernel
theorem dX6_mostLikely_0 : decode cX6_mostLikely 0 = .ok (.iconst 0, 1) := by decide +kernel
theorem dX6_mostLikely_1 : decode cX6_mostLikely 1 = .ok (.istore_n 2, 1) := by decide +kernel
theorem dX6_mostLikely_2 : decode cX6_mostLikely 2 = .ok (.aload_n 0, 1) := by decide +kernel
theorem dX6_mostLikely_3 : decode cX6_mostLikely 3 = .ok (.aload_n 1, 1) := by decide +kernel
theorem dX6_mostLikely_4 : decode cX6_mostLikely 4 = .ok (.iconst 0, 1) := by decide +kernel
theorem dX6_mostLikely_5 : decode cX6_mostLikely 5 = .ok (.invokevirtual 188, 3) := by decide +kernel
theorem dX6_mostLikely_8 : decode cX6_mostLikely 8 = .ok (.lstore_n 3, 1) := by decide +kernel
theorem dX6_mostLikely_9 : decode cX6_mostLikely 9 = .ok (.iconst 1, 1) := by decide +kernel
theorem dX6_mostLikely_10 : decode cX6_mostLikely 10 = .ok (.istore 5, 2) := by decide +kernel
theorem dX6_mostLikely_12 : decode cX6_mostLikely 12 = .ok (.iload 5, 2) := by decide +kernel
theorem dX6_mostLikely_14 : decode cX6_mostLikely 14 = .ok (.aload_n 0, 1) := by decide +kernel
theorem dX6_mostLikely_15 : decode cX6_mostLikely 15 = .ok (.getfield 35, 3) := by decide +kernel
theorem dX6_mostLikely_18 : decode cX6_mostLikely 18 = .ok (.getfield 172, 3) := by decide +kernel
theorem dX6_mostLikely_21 : decode cX6_mostLikely 21 = .ok (.if_icmp .gt 31, 3) := by decide +kernel
theorem dX6_mostLikely_24 : decode cX6_mostLikely 24 = .ok (.aload_n 0, 1) := by decide +kernel
theorem dX6_mostLikely_25 : decode cX6_mostLikely 25 = .ok (.aload_n 1, 1) := by decide +kernel
theorem dX6_mostLikely_26 : decode cX6_mostLikely 26 = .ok (.iload 5, 2) := by decide +kernel
theorem dX6_mostLikely_28 : decode cX6_mostLikely 28 = .ok (.invokevirtual 188, 3) := by decide +kernel
theorem dX6_mostLikely_31 : decode cX6_mostLikely 31 = .ok (.lstore 6, 2) := by decide +kernel
theorem dX6_mostLikely_33 : decode cX6_mostLikely 33 = .ok (.lload 6, 2) := by decide +kernel
theorem dX6_mostLikely_35 : decode cX6_mostLikely 35 = .ok (.lload_n 3, 1) := by decide +kernel
theorem dX6_mostLikely_36 : decode cX6_mostLikely 36 = .ok (.lcmp, 1) := by decide +kernel
theorem dX6_mostLikely_37 : decode cX6_mostLikely 37 = .ok (.ifCond .le 9, 3) := by decide +kernel
theorem dX6_mostLikely_40 : decode cX6_mostLikely 40 = .ok (.lload 6, 2) := by decide +kernel
theorem dX6_mostLikely_42 : decode cX6_mostLikely 42 = .ok (.lstore_n 3, 1) := by decide +kernel
theorem dX6_mostLikely_43 : decode cX6_mostLikely 43 = .ok (.iload 5, 2) := by decide +kernel
theorem dX6_mostLikely_45 : decode cX6_mostLikely 45 = .ok (.istore_n 2, 1) := by decide +kernel
theorem dX6_mostLikely_46 : decode cX6_mostLikely 46 = .ok (.iinc 5 1, 3) := by decide +kernel
theorem dX6_mostLikely_49 : decode cX6_mostLikely 49 = .ok (.goto (-37), 3) := by decide +kernel
theorem dX6_mostLikely_52 : decode cX6_mostLikely 52 = .ok (.iload_n 2, 1) := by decide +kernel
theorem dX6_mostLikely_53 : decode cX6_mostLikely 53 = .ok (.ireturn, 1) := by decide +kernel
theorem dX6_millionths_0 : decode cX6_millionths 0 = .ok (.lload_n 2, 1) := by decide +kernel
theorem dX6_millionths_1 : decode cX6_millionths 1 = .ok (.lconst 1, 1) := by decide +kernel
theorem dX6_millionths_2 : decode cX6_millionths 2 = .ok (.lcmp, 1) := by decide +kernel
theorem dX6_millionths_3 : decode cX6_millionths 3 = .ok (.ifCond .ge 5, 3) := by decide +kernel
theorem dX6_millionths_6 : decode cX6_millionths 6 = .ok (.iconst 0, 1) := by decide +kernel
theorem dX6_millionths_7 : decode cX6_millionths 7 = .ok (.ireturn, 1) := by decide +kernel
theorem dX6_millionths_8 : decode cX6_millionths 8 = .ok (.lload_n 0, 1) := by decide +kernel
theorem dX6_millionths_9 : decode cX6_millionths 9 = .ok (.lload_n 2, 1) := by decide +kernel
theorem dX6_millionths_10 : decode cX6_millionths 10 = .ok (.ldiv, 1) := by decide +kernel
theorem dX6_millionths_11 : decode cX6_millionths 11 = .ok (.lstore 4, 2) := by decide +kernel
theorem dX6_millionths_13 : decode cX6_millionths 13 = .ok (.lload_n 0, 1) := by decide +kernel
theorem dX6_millionths_14 : decode cX6_millionths 14 = .ok (.lload_n 2, 1) := by decide +kernel
theorem dX6_millionths_15 : decode cX6_millionths 15 = .ok (.lrem, 1) := by decide +kernel
theorem dX6_millionths_16 : decode cX6_millionths 16 = .ok (.lstore 6, 2) := by decide +kernel
theorem dX6_millionths_18 : decode cX6_millionths 18 = .ok (.iconst 0, 1) := by decide +kernel
theorem dX6_millionths_19 : decode cX6_millionths 19 = .ok (.istore 8, 2) := by decide +kernel
theorem dX6_millionths_21 : decode cX6_millionths 21 = .ok (.iload 8, 2) := by decide +kernel
theorem dX6_millionths_23 : decode cX6_millionths 23 = .ok (.bipush 6, 2) := by decide +kernel
theorem dX6_millionths_25 : decode cX6_millionths 25 = .ok (.if_icmp .ge 36, 3) := by decide +kernel
theorem dX6_millionths_28 : decode cX6_millionths 28 = .ok (.lload 6, 2) := by decide +kernel
theorem dX6_millionths_30 : decode cX6_millionths 30 = .ok (.ldc2_w 333, 3) := by decide +kernel
theorem dX6_millionths_33 : decode cX6_millionths 33 = .ok (.lmul, 1) := by decide +kernel
theorem dX6_millionths_34 : decode cX6_millionths 34 = .ok (.lstore 6, 2) := by decide +kernel
theorem dX6_millionths_36 : decode cX6_millionths 36 = .ok (.lload 4, 2) := by decide +kernel
theorem dX6_millionths_38 : decode cX6_millionths 38 = .ok (.ldc2_w 333, 3) := by decide +kernel
theorem dX6_millionths_41 : decode cX6_millionths 41 = .ok (.lmul, 1) := by decide +kernel
theorem dX6_millionths_42 : decode cX6_millionths 42 = .ok (.lload 6, 2) := by decide +kernel
theorem dX6_millionths_44 : decode cX6_millionths 44 = .ok (.lload_n 2, 1) := by decide +kernel
theorem dX6_millionths_45 : decode cX6_millionths 45 = .ok (.ldiv, 1) := by decide +kernel
theorem dX6_millionths_46 : decode cX6_millionths 46 = .ok (.ladd, 1) := by decide +kernel
theorem dX6_millionths_47 : decode cX6_millionths 47 = .ok (.lstore 4, 2) := by decide +kernel
theorem dX6_millionths_49 : decode cX6_millionths 49 = .ok (.lload 6, 2) := by decide +kernel
theorem dX6_millionths_51 : decode cX6_millionths 51 = .ok (.lload_n 2, 1) := by decide +kernel
theorem dX6_millionths_52 : decode cX6_millionths 52 = .ok (.lrem, 1) := by decide +kernel
theorem dX6_millionths_53 : decode cX6_millionths 53 = .ok (.lstore 6, 2) := by decide +kernel
theorem dX6_millionths_55 : decode cX6_millionths 55 = .ok (.iinc 8 1, 3) := by decide +kernel
theorem dX6_millionths_58 : decode cX6_millionths 58 = .ok (.goto (-37), 3) := by decide +kernel
theorem dX6_millionths_61 : decode cX6_millionths 61 = .ok (.lload 4, 2) := by decide +kernel
theorem dX6_millionths_63 : decode cX6_millionths 63 = .ok (.l2i, 1) := by decide +kernel
theorem dX6_millionths_64 : decode cX6_millionths 64 = .ok (.ireturn, 1) := by decide +kernel
theorem dX6_multiplyGivenAway_0 : decode cX6_multiplyGivenAway 0 = .ok (.aload_n 0, 1) := by decide +kernel
theorem dX6_multiplyGivenAway_1 : decode cX6_multiplyGivenAway 1 = .ok (.getfield 28, 3) := by decide +kernel
theorem dX6_multiplyGivenAway_4 : decode cX6_multiplyGivenAway 4 = .ok (.iload_n 1, 1) := by decide +kernel
theorem dX6_multiplyGivenAway_5 : decode cX6_multiplyGivenAway 5 = .ok (.aload_n 0, 1) := by decide +kernel
theorem dX6_multiplyGivenAway_6 : decode cX6_multiplyGivenAway 6 = .ok (.invokevirtual 160, 3) := by decide +kernel
theorem dX6_multiplyGivenAway_9 : decode cX6_multiplyGivenAway 9 = .ok (.invokevirtual 335, 3) := by decide +kernel
theorem dX6_multiplyGivenAway_12 : decode cX6_multiplyGivenAway 12 = .ok (.aload_n 0, 1) := by decide +kernel
theorem dX6_multiplyGivenAway_13 : decode cX6_multiplyGivenAway 13 = .ok (.invokevirtual 338, 3) := by decide +kernel
theorem dX6_multiplyGivenAway_16 : decode cX6_multiplyGivenAway 16 = .ok (.istore_n 2, 1) := by decide +kernel
theorem dX6_multiplyGivenAway_17 : decode cX6_multiplyGivenAway 17 = .ok (.aload_n 0, 1) := by decide +kernel
theorem dX6_multiplyGivenAway_18 : decode cX6_multiplyGivenAway 18 = .ok (.getfield 49, 3) := by decide +kernel
theorem dX6_multiplyGivenAway_21 : decode cX6_multiplyGivenAway 21 = .ok (.lconst 1, 1) := by decide +kernel
theorem dX6_multiplyGivenAway_22 : decode cX6_multiplyGivenAway 22 = .ok (.lconst 1, 1) := by decide +kernel
theorem dX6_multiplyGivenAway_23 : decode cX6_multiplyGivenAway 23 = .ok (.invokevirtual 111, 3) := by decide +kernel
theorem dX6_multiplyGivenAway_26 : decode cX6_multiplyGivenAway 26 = .ok (.iconst 0, 1) := by decide +kernel
theorem dX6_multiplyGivenAway_27 : decode cX6_multiplyGivenAway 27 = .ok (.istore_n 3, 1) := by decide +kernel
theorem dX6_multiplyGivenAway_28 : decode cX6_multiplyGivenAway 28 = .ok (.iload_n 3, 1) := by decide +kernel
theorem dX6_multiplyGivenAway_29 : decode cX6_multiplyGivenAway 29 = .ok (.aload_n 0, 1) := by decide +kernel
theorem dX6_multiplyGivenAway_30 : decode cX6_multiplyGivenAway 30 = .ok (.getfield 28, 3) := by decide +kernel
theorem dX6_multiplyGivenAway_33 : decode cX6_multiplyGivenAway 33 = .ok (.getfield 341, 3) := by decide +kernel
theorem dX6_multiplyGivenAway_36 : decode cX6_multiplyGivenAway 36 = .ok (.if_icmp .ge 69, 3) := by decide +kernel
theorem dX6_multiplyGivenAway_39 : decode cX6_multiplyGivenAway 39 = .ok (.iload_n 2, 1) := by decide +kernel
theorem dX6_multiplyGivenAway_40 : decode cX6_multiplyGivenAway 40 = .ok (.ifCond .ne 65, 3) := by decide +kernel
theorem dX6_multiplyGivenAway_43 : decode cX6_multiplyGivenAway 43 = .ok (.aload_n 0, 1) := by decide +kernel
theorem dX6_multiplyGivenAway_44 : decode cX6_multiplyGivenAway 44 = .ok (.getfield 28, 3) := by decide +kernel
theorem dX6_multiplyGivenAway_47 : decode cX6_multiplyGivenAway 47 = .ok (.getfield 344, 3) := by decide +kernel
theorem dX6_multiplyGivenAway_50 : decode cX6_multiplyGivenAway 50 = .ok (.iload_n 3, 1) := by decide +kernel
theorem dX6_multiplyGivenAway_51 : decode cX6_multiplyGivenAway 51 = .ok (.iaload, 1) := by decide +kernel
theorem dX6_multiplyGivenAway_52 : decode cX6_multiplyGivenAway 52 = .ok (.istore 4, 2) := by decide +kernel
theorem dX6_multiplyGivenAway_54 : decode cX6_multiplyGivenAway 54 = .ok (.aload_n 0, 1) := by decide +kernel
theorem dX6_multiplyGivenAway_55 : decode cX6_multiplyGivenAway 55 = .ok (.aload_n 0, 1) := by decide +kernel
theorem dX6_multiplyGivenAway_56 : decode cX6_multiplyGivenAway 56 = .ok (.getfield 11, 3) := by decide +kernel
theorem dX6_multiplyGivenAway_59 : decode cX6_multiplyGivenAway 59 = .ok (.aload_n 0, 1) := by decide +kernel
theorem dX6_multiplyGivenAway_60 : decode cX6_multiplyGivenAway 60 = .ok (.getfield 28, 3) := by decide +kernel
theorem dX6_multiplyGivenAway_63 : decode cX6_multiplyGivenAway 63 = .ok (.getfield 151, 3) := by decide +kernel
theorem dX6_multiplyGivenAway_66 : decode cX6_multiplyGivenAway 66 = .ok (.iload 4, 2) := by decide +kernel
theorem dX6_multiplyGivenAway_68 : decode cX6_multiplyGivenAway 68 = .ok (.iaload, 1) := by decide +kernel
theorem dX6_multiplyGivenAway_69 : decode cX6_multiplyGivenAway 69 = .ok (.aaload, 1) := by decide +kernel
theorem dX6_multiplyGivenAway_70 : decode cX6_multiplyGivenAway 70 = .ok (.aload_n 0, 1) := by decide +kernel
theorem dX6_multiplyGivenAway_71 : decode cX6_multiplyGivenAway 71 = .ok (.getfield 28, 3) := by decide +kernel
theorem dX6_multiplyGivenAway_74 : decode cX6_multiplyGivenAway 74 = .ok (.getfield 154, 3) := by decide +kernel
theorem dX6_multiplyGivenAway_77 : decode cX6_multiplyGivenAway 77 = .ok (.iload 4, 2) := by decide +kernel
theorem dX6_multiplyGivenAway_79 : decode cX6_multiplyGivenAway 79 = .ok (.iaload, 1) := by decide +kernel
theorem dX6_multiplyGivenAway_80 : decode cX6_multiplyGivenAway 80 = .ok (.invokevirtual 347, 3) := by decide +kernel
theorem dX6_multiplyGivenAway_83 : decode cX6_multiplyGivenAway 83 = .ok (.aload_n 0, 1) := by decide +kernel
theorem dX6_multiplyGivenAway_84 : decode cX6_multiplyGivenAway 84 = .ok (.getfield 49, 3) := by decide +kernel
theorem dX6_multiplyGivenAway_87 : decode cX6_multiplyGivenAway 87 = .ok (.ldc2_w 351, 3) := by decide +kernel
theorem dX6_multiplyGivenAway_90 : decode cX6_multiplyGivenAway 90 = .ok (.invokevirtual 353, 3) := by decide +kernel
theorem dX6_multiplyGivenAway_93 : decode cX6_multiplyGivenAway 93 = .ok (.ifCond .eq 6, 3) := by decide +kernel
theorem dX6_multiplyGivenAway_96 : decode cX6_multiplyGivenAway 96 = .ok (.bipush (-4), 2) := by decide +kernel
theorem dX6_multiplyGivenAway_98 : decode cX6_multiplyGivenAway 98 = .ok (.istore_n 2, 1) := by decide +kernel
theorem dX6_multiplyGivenAway_99 : decode cX6_multiplyGivenAway 99 = .ok (.iinc 3 1, 3) := by decide +kernel
theorem dX6_multiplyGivenAway_102 : decode cX6_multiplyGivenAway 102 = .ok (.goto (-74), 3) := by decide +kernel
theorem dX6_multiplyGivenAway_105 : decode cX6_multiplyGivenAway 105 = .ok (.iload_n 2, 1) := by decide +kernel
theorem dX6_multiplyGivenAway_106 : decode cX6_multiplyGivenAway 106 = .ok (.ireturn, 1) := by decide +kernel
theorem dX6_pickedRefusal_0 : decode cX6_pickedRefusal 0 = .ok (.iconst 0, 1) := by decide +kernel
theorem dX6_pickedRefusal_1 : decode cX6_pickedRefusal 1 = .ok (.istore_n 1, 1) := by decide +kernel
theorem dX6_pickedRefusal_2 : decode cX6_pickedRefusal 2 = .ok (.iconst 0, 1) := by decide +kernel
theorem dX6_pickedRefusal_3 : decode cX6_pickedRefusal 3 = .ok (.istore_n 2, 1) := by decide +kernel
theorem dX6_pickedRefusal_4 : decode cX6_pickedRefusal 4 = .ok (.iload_n 2, 1) := by decide +kernel
theorem dX6_pickedRefusal_5 : decode cX6_pickedRefusal 5 = .ok (.aload_n 0, 1) := by decide +kernel
theorem dX6_pickedRefusal_6 : decode cX6_pickedRefusal 6 = .ok (.getfield 28, 3) := by decide +kernel
theorem dX6_pickedRefusal_9 : decode cX6_pickedRefusal 9 = .ok (.getfield 341, 3) := by decide +kernel
theorem dX6_pickedRefusal_12 : decode cX6_pickedRefusal 12 = .ok (.if_icmp .ge 67, 3) := by decide +kernel
theorem dX6_pickedRefusal_15 : decode cX6_pickedRefusal 15 = .ok (.aload_n 0, 1) := by decide +kernel
theorem dX6_pickedRefusal_16 : decode cX6_pickedRefusal 16 = .ok (.getfield 28, 3) := by decide +kernel
theorem dX6_pickedRefusal_19 : decode cX6_pickedRefusal 19 = .ok (.getfield 344, 3) := by decide +kernel
theorem dX6_pickedRefusal_22 : decode cX6_pickedRefusal 22 = .ok (.iload_n 2, 1) := by decide +kernel
theorem dX6_pickedRefusal_23 : decode cX6_pickedRefusal 23 = .ok (.iaload, 1) := by decide +kernel
theorem dX6_pickedRefusal_24 : decode cX6_pickedRefusal 24 = .ok (.istore_n 3, 1) := by decide +kernel
theorem dX6_pickedRefusal_25 : decode cX6_pickedRefusal 25 = .ok (.aload_n 0, 1) := by decide +kernel
theorem dX6_pickedRefusal_26 : decode cX6_pickedRefusal 26 = .ok (.getfield 11, 3) := by decide +kernel
theorem dX6_pickedRefusal_29 : decode cX6_pickedRefusal 29 = .ok (.aload_n 0, 1) := by decide +kernel
theorem dX6_pickedRefusal_30 : decode cX6_pickedRefusal 30 = .ok (.getfield 28, 3) := by decide +kernel
theorem dX6_pickedRefusal_33 : decode cX6_pickedRefusal 33 = .ok (.getfield 151, 3) := by decide +kernel
theorem dX6_pickedRefusal_36 : decode cX6_pickedRefusal 36 = .ok (.iload_n 3, 1) := by decide +kernel
theorem dX6_pickedRefusal_37 : decode cX6_pickedRefusal 37 = .ok (.iaload, 1) := by decide +kernel
theorem dX6_pickedRefusal_38 : decode cX6_pickedRefusal 38 = .ok (.aaload, 1) := by decide +kernel
theorem dX6_pickedRefusal_39 : decode cX6_pickedRefusal 39 = .ok (.astore 4, 2) := by decide +kernel
theorem dX6_pickedRefusal_41 : decode cX6_pickedRefusal 41 = .ok (.aload 4, 2) := by decide +kernel
theorem dX6_pickedRefusal_43 : decode cX6_pickedRefusal 43 = .ok (.invokevirtual 98, 3) := by decide +kernel
theorem dX6_pickedRefusal_46 : decode cX6_pickedRefusal 46 = .ok (.ifCond .eq 6, 3) := by decide +kernel
theorem dX6_pickedRefusal_49 : decode cX6_pickedRefusal 49 = .ok (.bipush (-3), 2) := by decide +kernel
theorem dX6_pickedRefusal_51 : decode cX6_pickedRefusal 51 = .ok (.ireturn, 1) := by decide +kernel
theorem dX6_pickedRefusal_52 : decode cX6_pickedRefusal 52 = .ok (.aload 4, 2) := by decide +kernel
theorem dX6_pickedRefusal_54 : decode cX6_pickedRefusal 54 = .ok (.aload_n 0, 1) := by decide +kernel
theorem dX6_pickedRefusal_55 : decode cX6_pickedRefusal 55 = .ok (.getfield 28, 3) := by decide +kernel
theorem dX6_pickedRefusal_58 : decode cX6_pickedRefusal 58 = .ok (.getfield 154, 3) := by decide +kernel
theorem dX6_pickedRefusal_61 : decode cX6_pickedRefusal 61 = .ok (.iload_n 3, 1) := by decide +kernel
theorem dX6_pickedRefusal_62 : decode cX6_pickedRefusal 62 = .ok (.iaload, 1) := by decide +kernel
theorem dX6_pickedRefusal_63 : decode cX6_pickedRefusal 63 = .ok (.invokevirtual 210, 3) := by decide +kernel
theorem dX6_pickedRefusal_66 : decode cX6_pickedRefusal 66 = .ok (.lconst 0, 1) := by decide +kernel
theorem dX6_pickedRefusal_67 : decode cX6_pickedRefusal 67 = .ok (.lcmp, 1) := by decide +kernel
theorem dX6_pickedRefusal_68 : decode cX6_pickedRefusal 68 = .ok (.ifCond .ne 5, 3) := by decide +kernel
theorem dX6_pickedRefusal_71 : decode cX6_pickedRefusal 71 = .ok (.iconst (-1), 1) := by decide +kernel
theorem dX6_pickedRefusal_72 : decode cX6_pickedRefusal 72 = .ok (.istore_n 1, 1) := by decide +kernel
theorem dX6_pickedRefusal_73 : decode cX6_pickedRefusal 73 = .ok (.iinc 2 1, 3) := by decide +kernel
theorem dX6_pickedRefusal_76 : decode cX6_pickedRefusal 76 = .ok (.goto (-72), 3) := by decide +kernel
theorem dX6_pickedRefusal_79 : decode cX6_pickedRefusal 79 = .ok (.iload_n 1, 1) := by decide +kernel
theorem dX6_pickedRefusal_80 : decode cX6_pickedRefusal 80 = .ok (.ireturn, 1) := by decide +kernel
theorem dX6_multiplyByAnswer_0 : decode cX6_multiplyByAnswer 0 = .ok (.aload_n 0, 1) := by decide +kernel
theorem dX6_multiplyByAnswer_1 : decode cX6_multiplyByAnswer 1 = .ok (.getfield 49, 3) := by decide +kernel
theorem dX6_multiplyByAnswer_4 : decode cX6_multiplyByAnswer 4 = .ok (.aload_n 0, 1) := by decide +kernel
theorem dX6_multiplyByAnswer_5 : decode cX6_multiplyByAnswer 5 = .ok (.getfield 49, 3) := by decide +kernel
theorem dX6_multiplyByAnswer_8 : decode cX6_multiplyByAnswer 8 = .ok (.getfield 219, 3) := by decide +kernel
theorem dX6_multiplyByAnswer_11 : decode cX6_multiplyByAnswer 11 = .ok (.aload_n 1, 1) := by decide +kernel
theorem dX6_multiplyByAnswer_12 : decode cX6_multiplyByAnswer 12 = .ok (.iload_n 2, 1) := by decide +kernel
theorem dX6_multiplyByAnswer_13 : decode cX6_multiplyByAnswer 13 = .ok (.invokevirtual 213, 3) := by decide +kernel
theorem dX6_multiplyByAnswer_16 : decode cX6_multiplyByAnswer 16 = .ok (.lmul, 1) := by decide +kernel
theorem dX6_multiplyByAnswer_17 : decode cX6_multiplyByAnswer 17 = .ok (.aload_n 0, 1) := by decide +kernel
theorem dX6_multiplyByAnswer_18 : decode cX6_multiplyByAnswer 18 = .ok (.getfield 49, 3) := by decide +kernel
theorem dX6_multiplyByAnswer_21 : decode cX6_multiplyByAnswer 21 = .ok (.getfield 223, 3) := by decide +kernel
theorem dX6_multiplyByAnswer_24 : decode cX6_multiplyByAnswer 24 = .ok (.aload_n 1, 1) := by decide +kernel
theorem dX6_multiplyByAnswer_25 : decode cX6_multiplyByAnswer 25 = .ok (.iload_n 2, 1) := by decide +kernel
theorem dX6_multiplyByAnswer_26 : decode cX6_multiplyByAnswer 26 = .ok (.invokevirtual 210, 3) := by decide +kernel
theorem dX6_multiplyByAnswer_29 : decode cX6_multiplyByAnswer 29 = .ok (.lmul, 1) := by decide +kernel
theorem dX6_multiplyByAnswer_30 : decode cX6_multiplyByAnswer 30 = .ok (.invokevirtual 111, 3) := by decide +kernel
theorem dX6_multiplyByAnswer_33 : decode cX6_multiplyByAnswer 33 = .ok (.return_, 1) := by decide +kernel
theorem dX6_mayBeAsked_0 : decode cX6_mayBeAsked 0 = .ok (.aload_n 0, 1) := by decide +kernel
theorem dX6_mayBeAsked_1 : decode cX6_mayBeAsked 1 = .ok (.getfield 11, 3) := by decide +kernel
theorem dX6_mayBeAsked_4 : decode cX6_mayBeAsked 4 = .ok (.iload_n 2, 1) := by decide +kernel
theorem dX6_mayBeAsked_5 : decode cX6_mayBeAsked 5 = .ok (.aaload, 1) := by decide +kernel
theorem dX6_mayBeAsked_6 : decode cX6_mayBeAsked 6 = .ok (.astore_n 3, 1) := by decide +kernel
theorem dX6_mayBeAsked_7 : decode cX6_mayBeAsked 7 = .ok (.aload_n 3, 1) := by decide +kernel
theorem dX6_mayBeAsked_8 : decode cX6_mayBeAsked 8 = .ok (.invokevirtual 249, 3) := by decide +kernel
theorem dX6_mayBeAsked_11 : decode cX6_mayBeAsked 11 = .ok (.ifCond .eq 14, 3) := by decide +kernel
theorem dX6_mayBeAsked_14 : decode cX6_mayBeAsked 14 = .ok (.aload_n 3, 1) := by decide +kernel
theorem dX6_mayBeAsked_15 : decode cX6_mayBeAsked 15 = .ok (.invokevirtual 226, 3) := by decide +kernel
theorem dX6_mayBeAsked_18 : decode cX6_mayBeAsked 18 = .ok (.ifCond .eq 7, 3) := by decide +kernel
theorem dX6_mayBeAsked_21 : decode cX6_mayBeAsked 21 = .ok (.iconst 1, 1) := by decide +kernel
theorem dX6_mayBeAsked_22 : decode cX6_mayBeAsked 22 = .ok (.goto 4, 3) := by decide +kernel
theorem dX6_mayBeAsked_25 : decode cX6_mayBeAsked 25 = .ok (.iconst 0, 1) := by decide +kernel
theorem dX6_mayBeAsked_26 : decode cX6_mayBeAsked 26 = .ok (.istore 4, 2) := by decide +kernel
theorem dX6_mayBeAsked_28 : decode cX6_mayBeAsked 28 = .ok (.iload 4, 2) := by decide +kernel
theorem dX6_mayBeAsked_30 : decode cX6_mayBeAsked 30 = .ok (.ifCond .eq 24, 3) := by decide +kernel
theorem dX6_mayBeAsked_33 : decode cX6_mayBeAsked 33 = .ok (.aload_n 0, 1) := by decide +kernel
theorem dX6_mayBeAsked_34 : decode cX6_mayBeAsked 34 = .ok (.iload_n 1, 1) := by decide +kernel
theorem dX6_mayBeAsked_35 : decode cX6_mayBeAsked 35 = .ok (.invokevirtual 216, 3) := by decide +kernel
theorem dX6_mayBeAsked_38 : decode cX6_mayBeAsked 38 = .ok (.ifCond .ne 16, 3) := by decide +kernel
theorem dX6_mayBeAsked_41 : decode cX6_mayBeAsked 41 = .ok (.aload_n 0, 1) := by decide +kernel
theorem dX6_mayBeAsked_42 : decode cX6_mayBeAsked 42 = .ok (.getfield 28, 3) := by decide +kernel
theorem dX6_mayBeAsked_45 : decode cX6_mayBeAsked 45 = .ok (.getfield 357, 3) := by decide +kernel
theorem dX6_mayBeAsked_48 : decode cX6_mayBeAsked 48 = .ok (.iload_n 2, 1) := by decide +kernel
theorem dX6_mayBeAsked_49 : decode cX6_mayBeAsked 49 = .ok (.iaload, 1) := by decide +kernel
theorem dX6_mayBeAsked_50 : decode cX6_mayBeAsked 50 = .ok (.iconst 2, 1) := by decide +kernel
theorem dX6_mayBeAsked_51 : decode cX6_mayBeAsked 51 = .ok (.if_icmp .lt 5, 3) := by decide +kernel
theorem dX6_mayBeAsked_54 : decode cX6_mayBeAsked 54 = .ok (.iconst 0, 1) := by decide +kernel
theorem dX6_mayBeAsked_55 : decode cX6_mayBeAsked 55 = .ok (.ireturn, 1) := by decide +kernel
theorem dX6_mayBeAsked_56 : decode cX6_mayBeAsked 56 = .ok (.aload_n 0, 1) := by decide +kernel
theorem dX6_mayBeAsked_57 : decode cX6_mayBeAsked 57 = .ok (.getfield 49, 3) := by decide +kernel
theorem dX6_mayBeAsked_60 : decode cX6_mayBeAsked 60 = .ok (.getfield 219, 3) := by decide +kernel
theorem dX6_mayBeAsked_63 : decode cX6_mayBeAsked 63 = .ok (.lstore 5, 2) := by decide +kernel
theorem dX6_mayBeAsked_65 : decode cX6_mayBeAsked 65 = .ok (.aload_n 0, 1) := by decide +kernel
theorem dX6_mayBeAsked_66 : decode cX6_mayBeAsked 66 = .ok (.getfield 49, 3) := by decide +kernel
theorem dX6_mayBeAsked_69 : decode cX6_mayBeAsked 69 = .ok (.getfield 223, 3) := by decide +kernel
theorem dX6_mayBeAsked_72 : decode cX6_mayBeAsked 72 = .ok (.lstore 7, 2) := by decide +kernel
theorem dX6_mayBeAsked_74 : decode cX6_mayBeAsked 74 = .ok (.iconst 1, 1) := by decide +kernel
theorem dX6_mayBeAsked_75 : decode cX6_mayBeAsked 75 = .ok (.istore 9, 2) := by decide +kernel
theorem dX6_mayBeAsked_77 : decode cX6_mayBeAsked 77 = .ok (.iconst 0, 1) := by decide +kernel
theorem dX6_mayBeAsked_78 : decode cX6_mayBeAsked 78 = .ok (.istore 10, 2) := by decide +kernel
theorem dX6_mayBeAsked_80 : decode cX6_mayBeAsked 80 = .ok (.iload 10, 2) := by decide +kernel
theorem dX6_mayBeAsked_82 : decode cX6_mayBeAsked 82 = .ok (.iconst 1, 1) := by decide +kernel
theorem dX6_mayBeAsked_83 : decode cX6_mayBeAsked 83 = .ok (.if_icmp .gt 46, 3) := by decide +kernel
theorem dX6_mayBeAsked_86 : decode cX6_mayBeAsked 86 = .ok (.aload_n 0, 1) := by decide +kernel
theorem dX6_mayBeAsked_87 : decode cX6_mayBeAsked 87 = .ok (.getfield 49, 3) := by decide +kernel
theorem dX6_mayBeAsked_90 : decode cX6_mayBeAsked 90 = .ok (.lload 5, 2) := by decide +kernel
theorem dX6_mayBeAsked_92 : decode cX6_mayBeAsked 92 = .ok (.lload 7, 2) := by decide +kernel
theorem dX6_mayBeAsked_94 : decode cX6_mayBeAsked 94 = .ok (.invokevirtual 111, 3) := by decide +kernel
theorem dX6_mayBeAsked_97 : decode cX6_mayBeAsked 97 = .ok (.aload_n 0, 1) := by decide +kernel
theorem dX6_mayBeAsked_98 : decode cX6_mayBeAsked 98 = .ok (.aload_n 3, 1) := by decide +kernel
theorem dX6_mayBeAsked_99 : decode cX6_mayBeAsked 99 = .ok (.iload 10, 2) := by decide +kernel
theorem dX6_mayBeAsked_101 : decode cX6_mayBeAsked 101 = .ok (.invokevirtual 347, 3) := by decide +kernel
theorem dX6_mayBeAsked_104 : decode cX6_mayBeAsked 104 = .ok (.iload 9, 2) := by decide +kernel
theorem dX6_mayBeAsked_106 : decode cX6_mayBeAsked 106 = .ok (.ifCond .eq 14, 3) := by decide +kernel
theorem dX6_mayBeAsked_109 : decode cX6_mayBeAsked 109 = .ok (.aload_n 0, 1) := by decide +kernel
theorem dX6_mayBeAsked_110 : decode cX6_mayBeAsked 110 = .ok (.invokevirtual 360, 3) := by decide +kernel
theorem dX6_mayBeAsked_113 : decode cX6_mayBeAsked 113 = .ok (.ifCond .eq 7, 3) := by decide +kernel
theorem dX6_mayBeAsked_116 : decode cX6_mayBeAsked 116 = .ok (.iconst 1, 1) := by decide +kernel
theorem dX6_mayBeAsked_117 : decode cX6_mayBeAsked 117 = .ok (.goto 4, 3) := by decide +kernel
theorem dX6_mayBeAsked_120 : decode cX6_mayBeAsked 120 = .ok (.iconst 0, 1) := by decide +kernel
theorem dX6_mayBeAsked_121 : decode cX6_mayBeAsked 121 = .ok (.istore 9, 2) := by decide +kernel
theorem dX6_mayBeAsked_123 : decode cX6_mayBeAsked 123 = .ok (.iinc 10 1, 3) := by decide +kernel
theorem dX6_mayBeAsked_126 : decode cX6_mayBeAsked 126 = .ok (.goto (-46), 3) := by decide +kernel
theorem dX6_mayBeAsked_129 : decode cX6_mayBeAsked 129 = .ok (.iload 9, 2) := by decide +kernel
theorem dX6_mayBeAsked_131 : decode cX6_mayBeAsked 131 = .ok (.ireturn, 1) := by decide +kernel
theorem dX6_isWithinLimit_0 : decode cX6_isWithinLimit 0 = .ok (.aload_n 0, 1) := by decide +kernel
theorem dX6_isWithinLimit_1 : decode cX6_isWithinLimit 1 = .ok (.getfield 49, 3) := by decide +kernel
theorem dX6_isWithinLimit_4 : decode cX6_isWithinLimit 4 = .ok (.ldc2_w 351, 3) := by decide +kernel
theorem dX6_isWithinLimit_7 : decode cX6_isWithinLimit 7 = .ok (.invokevirtual 353, 3) := by decide +kernel
theorem dX6_isWithinLimit_10 : decode cX6_isWithinLimit 10 = .ok (.ifCond .ne 55, 3) := by decide +kernel
theorem dX6_isWithinLimit_13 : decode cX6_isWithinLimit 13 = .ok (.aload_n 0, 1) := by decide +kernel
theorem dX6_isWithinLimit_14 : decode cX6_isWithinLimit 14 = .ok (.getfield 49, 3) := by decide +kernel
theorem dX6_isWithinLimit_17 : decode cX6_isWithinLimit 17 = .ok (.getfield 219, 3) := by decide +kernel
theorem dX6_isWithinLimit_20 : decode cX6_isWithinLimit 20 = .ok (.aload_n 0, 1) := by decide +kernel
theorem dX6_isWithinLimit_21 : decode cX6_isWithinLimit 21 = .ok (.getfield 63, 3) := by decide +kernel
theorem dX6_isWithinLimit_24 : decode cX6_isWithinLimit 24 = .ok (.i2l, 1) := by decide +kernel
theorem dX6_isWithinLimit_25 : decode cX6_isWithinLimit 25 = .ok (.aload_n 0, 1) := by decide +kernel
theorem dX6_isWithinLimit_26 : decode cX6_isWithinLimit 26 = .ok (.getfield 49, 3) := by decide +kernel
theorem dX6_isWithinLimit_29 : decode cX6_isWithinLimit 29 = .ok (.getfield 223, 3) := by decide +kernel
theorem dX6_isWithinLimit_32 : decode cX6_isWithinLimit 32 = .ok (.lmul, 1) := by decide +kernel
theorem dX6_isWithinLimit_33 : decode cX6_isWithinLimit 33 = .ok (.lcmp, 1) := by decide +kernel
theorem dX6_isWithinLimit_34 : decode cX6_isWithinLimit 34 = .ok (.ifCond .gt 31, 3) := by decide +kernel
theorem dX6_isWithinLimit_37 : decode cX6_isWithinLimit 37 = .ok (.aload_n 0, 1) := by decide +kernel
theorem dX6_isWithinLimit_38 : decode cX6_isWithinLimit 38 = .ok (.getfield 49, 3) := by decide +kernel
theorem dX6_isWithinLimit_41 : decode cX6_isWithinLimit 41 = .ok (.getfield 223, 3) := by decide +kernel
theorem dX6_isWithinLimit_44 : decode cX6_isWithinLimit 44 = .ok (.aload_n 0, 1) := by decide +kernel
theorem dX6_isWithinLimit_45 : decode cX6_isWithinLimit 45 = .ok (.getfield 63, 3) := by decide +kernel
theorem dX6_isWithinLimit_48 : decode cX6_isWithinLimit 48 = .ok (.i2l, 1) := by decide +kernel
theorem dX6_isWithinLimit_49 : decode cX6_isWithinLimit 49 = .ok (.aload_n 0, 1) := by decide +kernel
theorem dX6_isWithinLimit_50 : decode cX6_isWithinLimit 50 = .ok (.getfield 49, 3) := by decide +kernel
theorem dX6_isWithinLimit_53 : decode cX6_isWithinLimit 53 = .ok (.getfield 219, 3) := by decide +kernel
theorem dX6_isWithinLimit_56 : decode cX6_isWithinLimit 56 = .ok (.lmul, 1) := by decide +kernel
theorem dX6_isWithinLimit_57 : decode cX6_isWithinLimit 57 = .ok (.lcmp, 1) := by decide +kernel
theorem dX6_isWithinLimit_58 : decode cX6_isWithinLimit 58 = .ok (.ifCond .gt 7, 3) := by decide +kernel
theorem dX6_isWithinLimit_61 : decode cX6_isWithinLimit 61 = .ok (.iconst 1, 1) := by decide +kernel
theorem dX6_isWithinLimit_62 : decode cX6_isWithinLimit 62 = .ok (.goto 4, 3) := by decide +kernel
theorem dX6_isWithinLimit_65 : decode cX6_isWithinLimit 65 = .ok (.iconst 0, 1) := by decide +kernel
theorem dX6_isWithinLimit_66 : decode cX6_isWithinLimit 66 = .ok (.ireturn, 1) := by decide +kernel
theorem dX6_scattersLess_0 : decode cX6_scattersLess 0 = .ok (.iload_n 0, 1) := by decide +kernel
theorem dX6_scattersLess_1 : decode cX6_scattersLess 1 = .ok (.iload_n 1, 1) := by decide +kernel
theorem dX6_scattersLess_2 : decode cX6_scattersLess 2 = .ok (.isub, 1) := by decide +kernel
theorem dX6_scattersLess_3 : decode cX6_scattersLess 3 = .ok (.i2l, 1) := by decide +kernel
theorem dX6_scattersLess_4 : decode cX6_scattersLess 4 = .ok (.iload_n 0, 1) := by decide +kernel
theorem dX6_scattersLess_5 : decode cX6_scattersLess 5 = .ok (.iload_n 1, 1) := by decide +kernel
theorem dX6_scattersLess_6 : decode cX6_scattersLess 6 = .ok (.isub, 1) := by decide +kernel
theorem dX6_scattersLess_7 : decode cX6_scattersLess 7 = .ok (.i2l, 1) := by decide +kernel
theorem dX6_scattersLess_8 : decode cX6_scattersLess 8 = .ok (.lmul, 1) := by decide +kernel
theorem dX6_scattersLess_9 : decode cX6_scattersLess 9 = .ok (.lstore 5, 2) := by decide +kernel
theorem dX6_scattersLess_11 : decode cX6_scattersLess 11 = .ok (.iload_n 2, 1) := by decide +kernel
theorem dX6_scattersLess_12 : decode cX6_scattersLess 12 = .ok (.iload_n 3, 1) := by decide +kernel
theorem dX6_scattersLess_13 : decode cX6_scattersLess 13 = .ok (.isub, 1) := by decide +kernel
theorem dX6_scattersLess_14 : decode cX6_scattersLess 14 = .ok (.i2l, 1) := by decide +kernel
theorem dX6_scattersLess_15 : decode cX6_scattersLess 15 = .ok (.iload_n 2, 1) := by decide +kernel
theorem dX6_scattersLess_16 : decode cX6_scattersLess 16 = .ok (.iload_n 3, 1) := by decide +kernel
theorem dX6_scattersLess_17 : decode cX6_scattersLess 17 = .ok (.isub, 1) := by decide +kernel
theorem dX6_scattersLess_18 : decode cX6_scattersLess 18 = .ok (.i2l, 1) := by decide +kernel
theorem dX6_scattersLess_19 : decode cX6_scattersLess 19 = .ok (.lmul, 1) := by decide +kernel
theorem dX6_scattersLess_20 : decode cX6_scattersLess 20 = .ok (.lstore 7, 2) := by decide +kernel
theorem dX6_scattersLess_22 : decode cX6_scattersLess 22 = .ok (.iload_n 0, 1) := by decide +kernel
theorem dX6_scattersLess_23 : decode cX6_scattersLess 23 = .ok (.iload_n 1, 1) := by decide +kernel
theorem dX6_scattersLess_24 : decode cX6_scattersLess 24 = .ok (.iload 4, 2) := by decide +kernel
theorem dX6_scattersLess_26 : decode cX6_scattersLess 26 = .ok (.invokestatic 363, 3) := by decide +kernel
theorem dX6_scattersLess_29 : decode cX6_scattersLess 29 = .ok (.lload 7, 2) := by decide +kernel
theorem dX6_scattersLess_31 : decode cX6_scattersLess 31 = .ok (.lmul, 1) := by decide +kernel
theorem dX6_scattersLess_32 : decode cX6_scattersLess 32 = .ok (.iload_n 2, 1) := by decide +kernel
theorem dX6_scattersLess_33 : decode cX6_scattersLess 33 = .ok (.iload_n 3, 1) := by decide +kernel
theorem dX6_scattersLess_34 : decode cX6_scattersLess 34 = .ok (.iload 4, 2) := by decide +kernel
theorem dX6_scattersLess_36 : decode cX6_scattersLess 36 = .ok (.invokestatic 363, 3) := by decide +kernel
theorem dX6_scattersLess_39 : decode cX6_scattersLess 39 = .ok (.lload 5, 2) := by decide +kernel
theorem dX6_scattersLess_41 : decode cX6_scattersLess 41 = .ok (.lmul, 1) := by decide +kernel
theorem dX6_scattersLess_42 : decode cX6_scattersLess 42 = .ok (.lcmp, 1) := by decide +kernel
theorem dX6_scattersLess_43 : decode cX6_scattersLess 43 = .ok (.ifCond .ge 7, 3) := by decide +kernel
theorem dX6_scattersLess_46 : decode cX6_scattersLess 46 = .ok (.iconst 1, 1) := by decide +kernel
theorem dX6_scattersLess_47 : decode cX6_scattersLess 47 = .ok (.goto 4, 3) := by decide +kernel
theorem dX6_scattersLess_50 : decode cX6_scattersLess 50 = .ok (.iconst 0, 1) := by decide +kernel
theorem dX6_scattersLess_51 : decode cX6_scattersLess 51 = .ok (.ireturn, 1) := by decide +kernel
theorem dX6_spreadOfYes_0 : decode cX6_spreadOfYes 0 = .ok (.iload_n 2, 1) := by decide +kernel
theorem dX6_spreadOfYes_1 : decode cX6_spreadOfYes 1 = .ok (.i2l, 1) := by decide +kernel
theorem dX6_spreadOfYes_2 : decode cX6_spreadOfYes 2 = .ok (.iload_n 0, 1) := by decide +kernel
theorem dX6_spreadOfYes_3 : decode cX6_spreadOfYes 3 = .ok (.i2l, 1) := by decide +kernel
theorem dX6_spreadOfYes_4 : decode cX6_spreadOfYes 4 = .ok (.lmul, 1) := by decide +kernel
theorem dX6_spreadOfYes_5 : decode cX6_spreadOfYes 5 = .ok (.ldc2_w 196, 3) := by decide +kernel
theorem dX6_spreadOfYes_8 : decode cX6_spreadOfYes 8 = .ok (.iload_n 2, 1) := by decide +kernel
theorem dX6_spreadOfYes_9 : decode cX6_spreadOfYes 9 = .ok (.i2l, 1) := by decide +kernel
theorem dX6_spreadOfYes_10 : decode cX6_spreadOfYes 10 = .ok (.lsub, 1) := by decide +kernel
theorem dX6_spreadOfYes_11 : decode cX6_spreadOfYes 11 = .ok (.iload_n 1, 1) := by decide +kernel
theorem dX6_spreadOfYes_12 : decode cX6_spreadOfYes 12 = .ok (.i2l, 1) := by decide +kernel
theorem dX6_spreadOfYes_13 : decode cX6_spreadOfYes 13 = .ok (.lmul, 1) := by decide +kernel
theorem dX6_spreadOfYes_14 : decode cX6_spreadOfYes 14 = .ok (.ladd, 1) := by decide +kernel
theorem dX6_spreadOfYes_15 : decode cX6_spreadOfYes 15 = .ok (.lstore_n 3, 1) := by decide +kernel
theorem dX6_spreadOfYes_16 : decode cX6_spreadOfYes 16 = .ok (.lload_n 3, 1) := by decide +kernel
theorem dX6_spreadOfYes_17 : decode cX6_spreadOfYes 17 = .ok (.ldc2_w 366, 3) := by decide +kernel
theorem dX6_spreadOfYes_20 : decode cX6_spreadOfYes 20 = .ok (.lload_n 3, 1) := by decide +kernel
theorem dX6_spreadOfYes_21 : decode cX6_spreadOfYes 21 = .ok (.lsub, 1) := by decide +kernel
theorem dX6_spreadOfYes_22 : decode cX6_spreadOfYes 22 = .ok (.lmul, 1) := by decide +kernel
theorem dX6_spreadOfYes_23 : decode cX6_spreadOfYes 23 = .ok (.lreturn, 1) := by decide +kernel
theorem dX6_peopleCounted_0 : decode cX6_peopleCounted 0 = .ok (.lconst 0, 1) := by decide +kernel
theorem dX6_peopleCounted_1 : decode cX6_peopleCounted 1 = .ok (.lstore_n 1, 1) := by decide +kernel
theorem dX6_peopleCounted_2 : decode cX6_peopleCounted 2 = .ok (.iconst 0, 1) := by decide +kernel
theorem dX6_peopleCounted_3 : decode cX6_peopleCounted 3 = .ok (.istore_n 3, 1) := by decide +kernel
theorem dX6_peopleCounted_4 : decode cX6_peopleCounted 4 = .ok (.iload_n 3, 1) := by decide +kernel
theorem dX6_peopleCounted_5 : decode cX6_peopleCounted 5 = .ok (.iconst 4, 1) := by decide +kernel
theorem dX6_peopleCounted_6 : decode cX6_peopleCounted 6 = .ok (.if_icmp .ge 40, 3) := by decide +kernel
theorem dX6_peopleCounted_9 : decode cX6_peopleCounted 9 = .ok (.aload_n 0, 1) := by decide +kernel
theorem dX6_peopleCounted_10 : decode cX6_peopleCounted 10 = .ok (.getfield 139, 3) := by decide +kernel
theorem dX6_peopleCounted_13 : decode cX6_peopleCounted 13 = .ok (.iload_n 3, 1) := by decide +kernel
theorem dX6_peopleCounted_14 : decode cX6_peopleCounted 14 = .ok (.iaload, 1) := by decide +kernel
theorem dX6_peopleCounted_15 : decode cX6_peopleCounted 15 = .ok (.istore 4, 2) := by decide +kernel
theorem dX6_peopleCounted_17 : decode cX6_peopleCounted 17 = .ok (.iload 4, 2) := by decide +kernel
theorem dX6_peopleCounted_19 : decode cX6_peopleCounted 19 = .ok (.ifCond .lt 11, 3) := by decide +kernel
theorem dX6_peopleCounted_22 : decode cX6_peopleCounted 22 = .ok (.iload 4, 2) := by decide +kernel
theorem dX6_peopleCounted_24 : decode cX6_peopleCounted 24 = .ok (.sipush 999, 3) := by decide +kernel
theorem dX6_peopleCounted_27 : decode cX6_peopleCounted 27 = .ok (.if_icmp .le 7, 3) := by decide +kernel
theorem dX6_peopleCounted_30 : decode cX6_peopleCounted 30 = .ok (.ldc2_w 368, 3) := by decide +kernel
theorem dX6_peopleCounted_33 : decode cX6_peopleCounted 33 = .ok (.lreturn, 1) := by decide +kernel
theorem dX6_peopleCounted_34 : decode cX6_peopleCounted 34 = .ok (.lload_n 1, 1) := by decide +kernel
theorem dX6_peopleCounted_35 : decode cX6_peopleCounted 35 = .ok (.iload 4, 2) := by decide +kernel
theorem dX6_peopleCounted_37 : decode cX6_peopleCounted 37 = .ok (.i2l, 1) := by decide +kernel
theorem dX6_peopleCounted_38 : decode cX6_peopleCounted 38 = .ok (.ladd, 1) := by decide +kernel
theorem dX6_peopleCounted_39 : decode cX6_peopleCounted 39 = .ok (.lstore_n 1, 1) := by decide +kernel
theorem dX6_peopleCounted_40 : decode cX6_peopleCounted 40 = .ok (.iinc 3 1, 3) := by decide +kernel
theorem dX6_peopleCounted_43 : decode cX6_peopleCounted 43 = .ok (.goto (-39), 3) := by decide +kernel
theorem dX6_peopleCounted_46 : decode cX6_peopleCounted 46 = .ok (.lload_n 1, 1) := by decide +kernel
theorem dX6_peopleCounted_47 : decode cX6_peopleCounted 47 = .ok (.lreturn, 1) := by decide +kernel
theorem dX6_part_0 : decode cX6_part 0 = .ok (.iload 4, 2) := by decide +kernel
theorem dX6_part_2 : decode cX6_part 2 = .ok (.ifCond .eq 9, 3) := by decide +kernel
theorem dX6_part_5 : decode cX6_part 5 = .ok (.iload 4, 2) := by decide +kernel
theorem dX6_part_7 : decode cX6_part 7 = .ok (.iconst 1, 1) := by decide +kernel
theorem dX6_part_8 : decode cX6_part 8 = .ok (.if_icmp .ne 7, 3) := by decide +kernel
theorem dX6_part_11 : decode cX6_part 11 = .ok (.iconst 1, 1) := by decide +kernel
theorem dX6_part_12 : decode cX6_part 12 = .ok (.goto 4, 3) := by decide +kernel
theorem dX6_part_15 : decode cX6_part 15 = .ok (.iconst 0, 1) := by decide +kernel
theorem dX6_part_16 : decode cX6_part 16 = .ok (.istore 7, 2) := by decide +kernel
theorem dX6_part_18 : decode cX6_part 18 = .ok (.iload 4, 2) := by decide +kernel
theorem dX6_part_20 : decode cX6_part 20 = .ok (.ifCond .eq 9, 3) := by decide +kernel
theorem dX6_part_23 : decode cX6_part 23 = .ok (.iload 4, 2) := by decide +kernel
theorem dX6_part_25 : decode cX6_part 25 = .ok (.iconst 2, 1) := by decide +kernel
theorem dX6_part_26 : decode cX6_part 26 = .ok (.if_icmp .ne 7, 3) := by decide +kernel
theorem dX6_part_29 : decode cX6_part 29 = .ok (.iconst 1, 1) := by decide +kernel
theorem dX6_part_30 : decode cX6_part 30 = .ok (.goto 4, 3) := by decide +kernel
theorem dX6_part_33 : decode cX6_part 33 = .ok (.iconst 0, 1) := by decide +kernel
theorem dX6_part_34 : decode cX6_part 34 = .ok (.istore 8, 2) := by decide +kernel
theorem dX6_part_36 : decode cX6_part 36 = .ok (.lconst 0, 1) := by decide +kernel
theorem dX6_part_37 : decode cX6_part 37 = .ok (.lstore 9, 2) := by decide +kernel
theorem dX6_part_39 : decode cX6_part 39 = .ok (.iconst 0, 1) := by decide +kernel
theorem dX6_part_40 : decode cX6_part 40 = .ok (.istore 11, 2) := by decide +kernel
theorem dX6_part_42 : decode cX6_part 42 = .ok (.iload 11, 2) := by decide +kernel
theorem dX6_part_44 : decode cX6_part 44 = .ok (.iconst 4, 1) := by decide +kernel
theorem dX6_part_45 : decode cX6_part 45 = .ok (.if_icmp .ge 67, 3) := by decide +kernel
theorem dX6_part_48 : decode cX6_part 48 = .ok (.iload 11, 2) := by decide +kernel
theorem dX6_part_50 : decode cX6_part 50 = .ok (.iconst 2, 1) := by decide +kernel
theorem dX6_part_51 : decode cX6_part 51 = .ok (.if_icmp .ge 7, 3) := by decide +kernel
theorem dX6_part_54 : decode cX6_part 54 = .ok (.iconst 1, 1) := by decide +kernel
theorem dX6_part_55 : decode cX6_part 55 = .ok (.goto 4, 3) := by decide +kernel
theorem dX6_part_58 : decode cX6_part 58 = .ok (.iconst 0, 1) := by decide +kernel
theorem dX6_part_59 : decode cX6_part 59 = .ok (.istore 12, 2) := by decide +kernel
theorem dX6_part_61 : decode cX6_part 61 = .ok (.iload 11, 2) := by decide +kernel
theorem dX6_part_63 : decode cX6_part 63 = .ok (.iconst 2, 1) := by decide +kernel
theorem dX6_part_64 : decode cX6_part 64 = .ok (.irem, 1) := by decide +kernel
theorem dX6_part_65 : decode cX6_part 65 = .ok (.ifCond .ne 7, 3) := by decide +kernel
theorem dX6_part_68 : decode cX6_part 68 = .ok (.iconst 1, 1) := by decide +kernel
theorem dX6_part_69 : decode cX6_part 69 = .ok (.goto 4, 3) := by decide +kernel
theorem dX6_part_72 : decode cX6_part 72 = .ok (.iconst 0, 1) := by decide +kernel
theorem dX6_part_73 : decode cX6_part 73 = .ok (.istore 13, 2) := by decide +kernel
theorem dX6_part_75 : decode cX6_part 75 = .ok (.lload 9, 2) := by decide +kernel
theorem dX6_part_77 : decode cX6_part 77 = .ok (.aload_n 1, 1) := by decide +kernel
theorem dX6_part_78 : decode cX6_part 78 = .ok (.getfield 139, 3) := by decide +kernel
theorem dX6_part_81 : decode cX6_part 81 = .ok (.iload 11, 2) := by decide +kernel
theorem dX6_part_83 : decode cX6_part 83 = .ok (.iaload, 1) := by decide +kernel
theorem dX6_part_84 : decode cX6_part 84 = .ok (.i2l, 1) := by decide +kernel
theorem dX6_part_85 : decode cX6_part 85 = .ok (.aload_n 2, 1) := by decide +kernel
theorem dX6_part_86 : decode cX6_part 86 = .ok (.iload 7, 2) := by decide +kernel
theorem dX6_part_88 : decode cX6_part 88 = .ok (.iload 12, 2) := by decide +kernel
theorem dX6_part_90 : decode cX6_part 90 = .ok (.invokevirtual 370, 3) := by decide +kernel
theorem dX6_part_93 : decode cX6_part 93 = .ok (.lmul, 1) := by decide +kernel
theorem dX6_part_94 : decode cX6_part 94 = .ok (.aload_n 3, 1) := by decide +kernel
theorem dX6_part_95 : decode cX6_part 95 = .ok (.iload 8, 2) := by decide +kernel
theorem dX6_part_97 : decode cX6_part 97 = .ok (.iload 13, 2) := by decide +kernel
theorem dX6_part_99 : decode cX6_part 99 = .ok (.invokevirtual 370, 3) := by decide +kernel
theorem dX6_part_102 : decode cX6_part 102 = .ok (.lmul, 1) := by decide +kernel
theorem dX6_part_103 : decode cX6_part 103 = .ok (.ladd, 1) := by decide +kernel
theorem dX6_part_104 : decode cX6_part 104 = .ok (.lstore 9, 2) := by decide +kernel
theorem dX6_part_106 : decode cX6_part 106 = .ok (.iinc 11 1, 3) := by decide +kernel
theorem dX6_part_109 : decode cX6_part 109 = .ok (.goto (-67), 3) := by decide +kernel
theorem dX6_part_112 : decode cX6_part 112 = .ok (.aload_n 0, 1) := by decide +kernel
theorem dX6_part_113 : decode cX6_part 113 = .ok (.getfield 49, 3) := by decide +kernel
theorem dX6_part_116 : decode cX6_part 116 = .ok (.lload 9, 2) := by decide +kernel
theorem dX6_part_118 : decode cX6_part 118 = .ok (.lload 5, 2) := by decide +kernel
theorem dX6_part_120 : decode cX6_part 120 = .ok (.aload_n 2, 1) := by decide +kernel
theorem dX6_part_121 : decode cX6_part 121 = .ok (.invokevirtual 180, 3) := by decide +kernel
theorem dX6_part_124 : decode cX6_part 124 = .ok (.lmul, 1) := by decide +kernel
theorem dX6_part_125 : decode cX6_part 125 = .ok (.aload_n 3, 1) := by decide +kernel
theorem dX6_part_126 : decode cX6_part 126 = .ok (.invokevirtual 180, 3) := by decide +kernel
theorem dX6_part_129 : decode cX6_part 129 = .ok (.lmul, 1) := by decide +kernel
theorem dX6_part_130 : decode cX6_part 130 = .ok (.invokevirtual 111, 3) := by decide +kernel
theorem dX6_part_133 : decode cX6_part 133 = .ok (.return_, 1) := by decide +kernel
theorem dX6_commonDivisor_0 : decode cX6_commonDivisor 0 = .ok (.lload_n 0, 1) := by decide +kernel
theorem dX6_commonDivisor_1 : decode cX6_commonDivisor 1 = .ok (.invokestatic 374, 3) := by decide +kernel
theorem dX6_commonDivisor_4 : decode cX6_commonDivisor 4 = .ok (.lstore 4, 2) := by decide +kernel
theorem dX6_commonDivisor_6 : decode cX6_commonDivisor 6 = .ok (.lload_n 2, 1) := by decide +kernel
theorem dX6_commonDivisor_7 : decode cX6_commonDivisor 7 = .ok (.invokestatic 374, 3) := by decide +kernel
theorem dX6_commonDivisor_10 : decode cX6_commonDivisor 10 = .ok (.lstore 6, 2) := by decide +kernel
theorem dX6_commonDivisor_12 : decode cX6_commonDivisor 12 = .ok (.iconst 0, 1) := by decide +kernel
theorem dX6_commonDivisor_13 : decode cX6_commonDivisor 13 = .ok (.istore 8, 2) := by decide +kernel
theorem dX6_commonDivisor_15 : decode cX6_commonDivisor 15 = .ok (.iload 8, 2) := by decide +kernel
theorem dX6_commonDivisor_17 : decode cX6_commonDivisor 17 = .ok (.sipush 200, 3) := by decide +kernel
theorem dX6_commonDivisor_20 : decode cX6_commonDivisor 20 = .ok (.if_icmp .ge 31, 3) := by decide +kernel
theorem dX6_commonDivisor_23 : decode cX6_commonDivisor 23 = .ok (.lload 6, 2) := by decide +kernel
theorem dX6_commonDivisor_25 : decode cX6_commonDivisor 25 = .ok (.lconst 0, 1) := by decide +kernel
theorem dX6_commonDivisor_26 : decode cX6_commonDivisor 26 = .ok (.lcmp, 1) := by decide +kernel
theorem dX6_commonDivisor_27 : decode cX6_commonDivisor 27 = .ok (.ifCond .eq 24, 3) := by decide +kernel
theorem dX6_commonDivisor_30 : decode cX6_commonDivisor 30 = .ok (.lload 4, 2) := by decide +kernel
theorem dX6_commonDivisor_32 : decode cX6_commonDivisor 32 = .ok (.lload 6, 2) := by decide +kernel
theorem dX6_commonDivisor_34 : decode cX6_commonDivisor 34 = .ok (.lrem, 1) := by decide +kernel
theorem dX6_commonDivisor_35 : decode cX6_commonDivisor 35 = .ok (.lstore 9, 2) := by decide +kernel
theorem dX6_commonDivisor_37 : decode cX6_commonDivisor 37 = .ok (.lload 6, 2) := by decide +kernel
theorem dX6_commonDivisor_39 : decode cX6_commonDivisor 39 = .ok (.lstore 4, 2) := by decide +kernel
theorem dX6_commonDivisor_41 : decode cX6_commonDivisor 41 = .ok (.lload 9, 2) := by decide +kernel
theorem dX6_commonDivisor_43 : decode cX6_commonDivisor 43 = .ok (.lstore 6, 2) := by decide +kernel
theorem dX6_commonDivisor_45 : decode cX6_commonDivisor 45 = .ok (.iinc 8 1, 3) := by decide +kernel
theorem dX6_commonDivisor_48 : decode cX6_commonDivisor 48 = .ok (.goto (-33), 3) := by decide +kernel
theorem dX6_commonDivisor_51 : decode cX6_commonDivisor 51 = .ok (.lload 4, 2) := by decide +kernel
theorem dX6_commonDivisor_53 : decode cX6_commonDivisor 53 = .ok (.lreturn, 1) := by decide +kernel
theorem dX7_init_0 : decode cX7_init 0 = .ok (.aload_n 0, 1) := by decide +kernel
theorem dX7_init_1 : decode cX7_init 1 = .ok (.invokespecial 1, 3) := by decide +kernel
theorem dX7_init_4 : decode cX7_init 4 = .ok (.aload_n 0, 1) := by decide +kernel
theorem dX7_init_5 : decode cX7_init 5 = .ok (.lconst 1, 1) := by decide +kernel
theorem dX7_init_6 : decode cX7_init 6 = .ok (.putfield 7, 3) := by decide +kernel
theorem dX7_init_9 : decode cX7_init 9 = .ok (.aload_n 0, 1) := by decide +kernel
theorem dX7_init_10 : decode cX7_init 10 = .ok (.iconst 4, 1) := by decide +kernel
theorem dX7_init_11 : decode cX7_init 11 = .ok (.newarray .int, 2) := by decide +kernel
theorem dX7_init_13 : decode cX7_init 13 = .ok (.putfield 13, 3) := by decide +kernel
theorem dX7_init_16 : decode cX7_init 16 = .ok (.aload_n 0, 1) := by decide +kernel
theorem dX7_init_17 : decode cX7_init 17 = .ok (.sipush 240, 3) := by decide +kernel
theorem dX7_init_20 : decode cX7_init 20 = .ok (.newarray .int, 2) := by decide +kernel
theorem dX7_init_22 : decode cX7_init 22 = .ok (.putfield 17, 3) := by decide +kernel
theorem dX7_init_25 : decode cX7_init 25 = .ok (.aload_n 0, 1) := by decide +kernel
theorem dX7_init_26 : decode cX7_init 26 = .ok (.iconst 4, 1) := by decide +kernel
theorem dX7_init_27 : decode cX7_init 27 = .ok (.newarray .boolean, 2) := by decide +kernel
theorem dX7_init_29 : decode cX7_init 29 = .ok (.putfield 20, 3) := by decide +kernel
theorem dX7_init_32 : decode cX7_init 32 = .ok (.aload_n 0, 1) := by decide +kernel
theorem dX7_init_33 : decode cX7_init 33 = .ok (.iconst 4, 1) := by decide +kernel
theorem dX7_init_34 : decode cX7_init 34 = .ok (.newarray .int, 2) := by decide +kernel
theorem dX7_init_36 : decode cX7_init 36 = .ok (.putfield 24, 3) := by decide +kernel
theorem dX7_init_39 : decode cX7_init 39 = .ok (.aload_n 0, 1) := by decide +kernel
theorem dX7_init_40 : decode cX7_init 40 = .ok (.iconst 4, 1) := by decide +kernel
theorem dX7_init_41 : decode cX7_init 41 = .ok (.newarray .int, 2) := by decide +kernel
theorem dX7_init_43 : decode cX7_init 43 = .ok (.putfield 27, 3) := by decide +kernel
theorem dX7_init_46 : decode cX7_init 46 = .ok (.aload_n 0, 1) := by decide +kernel
theorem dX7_init_47 : decode cX7_init 47 = .ok (.iconst 4, 1) := by decide +kernel
theorem dX7_init_48 : decode cX7_init 48 = .ok (.newarray .int, 2) := by decide +kernel
theorem dX7_init_50 : decode cX7_init 50 = .ok (.putfield 30, 3) := by decide +kernel
theorem dX7_init_53 : decode cX7_init 53 = .ok (.aload_n 0, 1) := by decide +kernel
theorem dX7_init_54 : decode cX7_init 54 = .ok (.iconst 4, 1) := by decide +kernel
theorem dX7_init_55 : decode cX7_init 55 = .ok (.newarray .int, 2) := by decide +kernel
theorem dX7_init_57 : decode cX7_init 57 = .ok (.putfield 33, 3) := by decide +kernel
theorem dX7_init_60 : decode cX7_init 60 = .ok (.aload_n 0, 1) := by decide +kernel
theorem dX7_init_61 : decode cX7_init 61 = .ok (.iconst 4, 1) := by decide +kernel
theorem dX7_init_62 : decode cX7_init 62 = .ok (.newarray .int, 2) := by decide +kernel
theorem dX7_init_64 : decode cX7_init 64 = .ok (.putfield 36, 3) := by decide +kernel
theorem dX7_init_67 : decode cX7_init 67 = .ok (.aload_n 0, 1) := by decide +kernel
theorem dX7_init_68 : decode cX7_init 68 = .ok (.iconst 4, 1) := by decide +kernel
theorem dX7_init_69 : decode cX7_init 69 = .ok (.newarray .int, 2) := by decide +kernel
theorem dX7_init_71 : decode cX7_init 71 = .ok (.putfield 39, 3) := by decide +kernel
theorem dX7_init_74 : decode cX7_init 74 = .ok (.aload_n 0, 1) := by decide +kernel
theorem dX7_init_75 : decode cX7_init 75 = .ok (.bipush 12, 2) := by decide +kernel
theorem dX7_init_77 : decode cX7_init 77 = .ok (.putfield 42, 3) := by decide +kernel
theorem dX7_init_80 : decode cX7_init 80 = .ok (.aload_n 0, 1) := by decide +kernel
