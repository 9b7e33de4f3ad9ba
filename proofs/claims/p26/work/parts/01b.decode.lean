theorem dX0_init_0 : decode cX0_init 0 = .ok (.aload_n 0, 1) := by decide +kernel
theorem dX0_init_1 : decode cX0_init 1 = .ok (.invokespecial 3, 3) := by decide +kernel
theorem dX0_init_4 : decode cX0_init 4 = .ok (.aload_n 0, 1) := by decide +kernel
theorem dX0_init_5 : decode cX0_init 5 = .ok (.bipush 120, 2) := by decide +kernel
theorem dX0_init_7 : decode cX0_init 7 = .ok (.newarray .int, 2) := by decide +kernel
theorem dX0_init_9 : decode cX0_init 9 = .ok (.putfield 9, 3) := by decide +kernel
theorem dX0_init_12 : decode cX0_init 12 = .ok (.aload_n 0, 1) := by decide +kernel
theorem dX0_init_13 : decode cX0_init 13 = .ok (.bipush 120, 2) := by decide +kernel
theorem dX0_init_15 : decode cX0_init 15 = .ok (.newarray .int, 2) := by decide +kernel
theorem dX0_init_17 : decode cX0_init 17 = .ok (.putfield 15, 3) := by decide +kernel
theorem dX0_init_20 : decode cX0_init 20 = .ok (.aload_n 0, 1) := by decide +kernel
theorem dX0_init_21 : decode cX0_init 21 = .ok (.bipush 120, 2) := by decide +kernel
theorem dX0_init_23 : decode cX0_init 23 = .ok (.newarray .int, 2) := by decide +kernel
theorem dX0_init_25 : decode cX0_init 25 = .ok (.putfield 18, 3) := by decide +kernel
theorem dX0_init_28 : decode cX0_init 28 = .ok (.aload_n 0, 1) := by decide +kernel
theorem dX0_init_29 : decode cX0_init 29 = .ok (.bipush 120, 2) := by decide +kernel
theorem dX0_init_31 : decode cX0_init 31 = .ok (.newarray .int, 2) := by decide +kernel
theorem dX0_init_33 : decode cX0_init 33 = .ok (.putfield 21, 3) := by decide +kernel
theorem dX0_init_36 : decode cX0_init 36 = .ok (.aload_n 0, 1) := by decide +kernel
theorem dX0_init_37 : decode cX0_init 37 = .ok (.bipush 120, 2) := by decide +kernel
theorem dX0_init_39 : decode cX0_init 39 = .ok (.newarray .int, 2) := by decide +kernel
theorem dX0_init_41 : decode cX0_init 41 = .ok (.putfield 24, 3) := by decide +kernel
theorem dX0_init_44 : decode cX0_init 44 = .ok (.aload_n 0, 1) := by decide +kernel
theorem dX0_init_45 : decode cX0_init 45 = .ok (.iconst 4, 1) := by decide +kernel
theorem dX0_init_46 : decode cX0_init 46 = .ok (.newarray .int, 2) := by decide +kernel
theorem dX0_init_48 : decode cX0_init 48 = .ok (.putfield 27, 3) := by decide +kernel
theorem dX0_init_51 : decode cX0_init 51 = .ok (.aload_n 0, 1) := by decide +kernel
theorem dX0_init_52 : decode cX0_init 52 = .ok (.bipush 8, 2) := by decide +kernel
theorem dX0_init_54 : decode cX0_init 54 = .ok (.newarray .int, 2) := by decide +kernel
theorem dX0_init_56 : decode cX0_init 56 = .ok (.putfield 30, 3) := by decide +kernel
theorem dX0_init_59 : decode cX0_init 59 = .ok (.aload_n 0, 1) := by decide +kernel
theorem dX0_init_60 : decode cX0_init 60 = .ok (.iconst 0, 1) := by decide +kernel
theorem dX0_init_61 : decode cX0_init 61 = .ok (.putfield 33, 3) := by decide +kernel
theorem dX0_init_64 : decode cX0_init 64 = .ok (.aload_n 0, 1) := by decide +kernel
theorem dX0_init_65 : decode cX0_init 65 = .ok (.iconst 0, 1) := by decide +kernel
theorem dX0_init_66 : decode cX0_init 66 = .ok (.putfield 37, 3) := by decide +kernel
theorem dX0_init_69 : decode cX0_init 69 = .ok (.return_, 1) := by decide +kernel
theorem dX0_tell_0 : decode cX0_tell 0 = .ok (.aload_n 0, 1) := by decide +kernel
theorem dX0_tell_1 : decode cX0_tell 1 = .ok (.getfield 37, 3) := by decide +kernel
theorem dX0_tell_4 : decode cX0_tell 4 = .ok (.bipush 120, 2) := by decide +kernel
theorem dX0_tell_6 : decode cX0_tell 6 = .ok (.if_icmp .lt 6, 3) := by decide +kernel
theorem dX0_tell_9 : decode cX0_tell 9 = .ok (.bipush (-4), 2) := by decide +kernel
theorem dX0_tell_11 : decode cX0_tell 11 = .ok (.ireturn, 1) := by decide +kernel
theorem dX0_tell_12 : decode cX0_tell 12 = .ok (.aload_n 0, 1) := by decide +kernel
theorem dX0_tell_13 : decode cX0_tell 13 = .ok (.getfield 9, 3) := by decide +kernel
theorem dX0_tell_16 : decode cX0_tell 16 = .ok (.aload_n 0, 1) := by decide +kernel
theorem dX0_tell_17 : decode cX0_tell 17 = .ok (.getfield 37, 3) := by decide +kernel
theorem dX0_tell_20 : decode cX0_tell 20 = .ok (.iload_n 1, 1) := by decide +kernel
theorem dX0_tell_21 : decode cX0_tell 21 = .ok (.iastore, 1) := by decide +kernel
theorem dX0_tell_22 : decode cX0_tell 22 = .ok (.aload_n 0, 1) := by decide +kernel
theorem dX0_tell_23 : decode cX0_tell 23 = .ok (.getfield 15, 3) := by decide +kernel
theorem dX0_tell_26 : decode cX0_tell 26 = .ok (.aload_n 0, 1) := by decide +kernel
theorem dX0_tell_27 : decode cX0_tell 27 = .ok (.getfield 37, 3) := by decide +kernel
theorem dX0_tell_30 : decode cX0_tell 30 = .ok (.iload_n 2, 1) := by decide +kernel
theorem dX0_tell_31 : decode cX0_tell 31 = .ok (.iastore, 1) := by decide +kernel
theorem dX0_tell_32 : decode cX0_tell 32 = .ok (.aload_n 0, 1) := by decide +kernel
theorem dX0_tell_33 : decode cX0_tell 33 = .ok (.getfield 18, 3) := by decide +kernel
theorem dX0_tell_36 : decode cX0_tell 36 = .ok (.aload_n 0, 1) := by decide +kernel
theorem dX0_tell_37 : decode cX0_tell 37 = .ok (.getfield 37, 3) := by decide +kernel
theorem dX0_tell_40 : decode cX0_tell 40 = .ok (.iload_n 3, 1) := by decide +kernel
theorem dX0_tell_41 : decode cX0_tell 41 = .ok (.iastore, 1) := by decide +kernel
theorem dX0_tell_42 : decode cX0_tell 42 = .ok (.aload_n 0, 1) := by decide +kernel
theorem dX0_tell_43 : decode cX0_tell 43 = .ok (.getfield 21, 3) := by decide +kernel
theorem dX0_tell_46 : decode cX0_tell 46 = .ok (.aload_n 0, 1) := by decide +kernel
theorem dX0_tell_47 : decode cX0_tell 47 = .ok (.getfield 37, 3) := by decide +kernel
theorem dX0_tell_50 : decode cX0_tell 50 = .ok (.iload 4, 2) := by decide +kernel
theorem dX0_tell_52 : decode cX0_tell 52 = .ok (.iastore, 1) := by decide +kernel
theorem dX0_tell_53 : decode cX0_tell 53 = .ok (.aload_n 0, 1) := by decide +kernel
theorem dX0_tell_54 : decode cX0_tell 54 = .ok (.getfield 24, 3) := by decide +kernel
theorem dX0_tell_57 : decode cX0_tell 57 = .ok (.aload_n 0, 1) := by decide +kernel
theorem dX0_tell_58 : decode cX0_tell 58 = .ok (.getfield 37, 3) := by decide +kernel
theorem dX0_tell_61 : decode cX0_tell 61 = .ok (.iconst (-1), 1) := by decide +kernel
theorem dX0_tell_62 : decode cX0_tell 62 = .ok (.iastore, 1) := by decide +kernel
theorem dX0_tell_63 : decode cX0_tell 63 = .ok (.aload_n 0, 1) := by decide +kernel
theorem dX0_tell_64 : decode cX0_tell 64 = .ok (.dup, 1) := by decide +kernel
theorem dX0_tell_65 : decode cX0_tell 65 = .ok (.getfield 37, 3) := by decide +kernel
theorem dX0_tell_68 : decode cX0_tell 68 = .ok (.iconst 1, 1) := by decide +kernel
theorem dX0_tell_69 : decode cX0_tell 69 = .ok (.iadd, 1) := by decide +kernel
theorem dX0_tell_70 : decode cX0_tell 70 = .ok (.putfield 37, 3) := by decide +kernel
theorem dX0_tell_73 : decode cX0_tell 73 = .ok (.aload_n 0, 1) := by decide +kernel
theorem dX0_tell_74 : decode cX0_tell 74 = .ok (.getfield 37, 3) := by decide +kernel
theorem dX0_tell_77 : decode cX0_tell 77 = .ok (.iconst 1, 1) := by decide +kernel
theorem dX0_tell_78 : decode cX0_tell 78 = .ok (.isub, 1) := by decide +kernel
theorem dX0_tell_79 : decode cX0_tell 79 = .ok (.ireturn, 1) := by decide +kernel
theorem dX0_isThere_0 : decode cX0_isThere 0 = .ok (.iload_n 1, 1) := by decide +kernel
theorem dX0_isThere_1 : decode cX0_isThere 1 = .ok (.ifCond .lt 15, 3) := by decide +kernel
theorem dX0_isThere_4 : decode cX0_isThere 4 = .ok (.iload_n 1, 1) := by decide +kernel
theorem dX0_isThere_5 : decode cX0_isThere 5 = .ok (.aload_n 0, 1) := by decide +kernel
theorem dX0_isThere_6 : decode cX0_isThere 6 = .ok (.getfield 37, 3) := by decide +kernel
theorem dX0_isThere_9 : decode cX0_isThere 9 = .ok (.if_icmp .ge 7, 3) := by decide +kernel
theorem dX0_isThere_12 : decode cX0_isThere 12 = .ok (.iconst 1, 1) := by decide +kernel
theorem dX0_isThere_13 : decode cX0_isThere 13 = .ok (.goto 4, 3) := by decide +kernel
theorem dX0_isThere_16 : decode cX0_isThere 16 = .ok (.iconst 0, 1) := by decide +kernel
theorem dX0_isThere_17 : decode cX0_isThere 17 = .ok (.ireturn, 1) := by decide +kernel
theorem dX0_isKnown_0 : decode cX0_isKnown 0 = .ok (.aload_n 0, 1) := by decide +kernel
theorem dX0_isKnown_1 : decode cX0_isKnown 1 = .ok (.getfield 21, 3) := by decide +kernel
theorem dX0_isKnown_4 : decode cX0_isKnown 4 = .ok (.iload_n 1, 1) := by decide +kernel
theorem dX0_isKnown_5 : decode cX0_isKnown 5 = .ok (.iaload, 1) := by decide +kernel
theorem dX0_isKnown_6 : decode cX0_isKnown 6 = .ok (.iload_n 2, 1) := by decide +kernel
theorem dX0_isKnown_7 : decode cX0_isKnown 7 = .ok (.if_icmp .gt 27, 3) := by decide +kernel
theorem dX0_isKnown_10 : decode cX0_isKnown 10 = .ok (.aload_n 0, 1) := by decide +kernel
theorem dX0_isKnown_11 : decode cX0_isKnown 11 = .ok (.getfield 24, 3) := by decide +kernel
theorem dX0_isKnown_14 : decode cX0_isKnown 14 = .ok (.iload_n 1, 1) := by decide +kernel
theorem dX0_isKnown_15 : decode cX0_isKnown 15 = .ok (.iaload, 1) := by decide +kernel
theorem dX0_isKnown_16 : decode cX0_isKnown 16 = .ok (.iconst (-1), 1) := by decide +kernel
theorem dX0_isKnown_17 : decode cX0_isKnown 17 = .ok (.if_icmp .eq 13, 3) := by decide +kernel
theorem dX0_isKnown_20 : decode cX0_isKnown 20 = .ok (.aload_n 0, 1) := by decide +kernel
theorem dX0_isKnown_21 : decode cX0_isKnown 21 = .ok (.getfield 24, 3) := by decide +kernel
theorem dX0_isKnown_24 : decode cX0_isKnown 24 = .ok (.iload_n 1, 1) := by decide +kernel
theorem dX0_isKnown_25 : decode cX0_isKnown 25 = .ok (.iaload, 1) := by decide +kernel
theorem dX0_isKnown_26 : decode cX0_isKnown 26 = .ok (.iload_n 2, 1) := by decide +kernel
theorem dX0_isKnown_27 : decode cX0_isKnown 27 = .ok (.if_icmp .le 7, 3) := by decide +kernel
theorem dX0_isKnown_30 : decode cX0_isKnown 30 = .ok (.iconst 1, 1) := by decide +kernel
theorem dX0_isKnown_31 : decode cX0_isKnown 31 = .ok (.goto 4, 3) := by decide +kernel
theorem dX0_isKnown_34 : decode cX0_isKnown 34 = .ok (.iconst 0, 1) := by decide +kernel
theorem dX0_isKnown_35 : decode cX0_isKnown 35 = .ok (.ireturn, 1) := by decide +kernel
theorem dX0_knownOnes_0 : decode cX0_knownOnes 0 = .ok (.iconst 0, 1) := by decide +kernel
theorem dX0_knownOnes_1 : decode cX0_knownOnes 1 = .ok (.istore_n 3, 1) := by decide +kernel
theorem dX0_knownOnes_2 : decode cX0_knownOnes 2 = .ok (.iconst 0, 1) := by decide +kernel
theorem dX0_knownOnes_3 : decode cX0_knownOnes 3 = .ok (.istore 4, 2) := by decide +kernel
theorem dX0_knownOnes_5 : decode cX0_knownOnes 5 = .ok (.iload 4, 2) := by decide +kernel
theorem dX0_knownOnes_7 : decode cX0_knownOnes 7 = .ok (.aload_n 0, 1) := by decide +kernel
theorem dX0_knownOnes_8 : decode cX0_knownOnes 8 = .ok (.getfield 37, 3) := by decide +kernel
theorem dX0_knownOnes_11 : decode cX0_knownOnes 11 = .ok (.if_icmp .ge 37, 3) := by decide +kernel
theorem dX0_knownOnes_14 : decode cX0_knownOnes 14 = .ok (.aload_n 0, 1) := by decide +kernel
theorem dX0_knownOnes_15 : decode cX0_knownOnes 15 = .ok (.iload 4, 2) := by decide +kernel
theorem dX0_knownOnes_17 : decode cX0_knownOnes 17 = .ok (.iload_n 1, 1) := by decide +kernel
theorem dX0_knownOnes_18 : decode cX0_knownOnes 18 = .ok (.invokevirtual 40, 3) := by decide +kernel
theorem dX0_knownOnes_21 : decode cX0_knownOnes 21 = .ok (.ifCond .eq 21, 3) := by decide +kernel
theorem dX0_knownOnes_24 : decode cX0_knownOnes 24 = .ok (.iload_n 2, 1) := by decide +kernel
theorem dX0_knownOnes_25 : decode cX0_knownOnes 25 = .ok (.ifCond .eq 14, 3) := by decide +kernel
theorem dX0_knownOnes_28 : decode cX0_knownOnes 28 = .ok (.aload_n 0, 1) := by decide +kernel
theorem dX0_knownOnes_29 : decode cX0_knownOnes 29 = .ok (.getfield 18, 3) := by decide +kernel
theorem dX0_knownOnes_32 : decode cX0_knownOnes 32 = .ok (.iload 4, 2) := by decide +kernel
theorem dX0_knownOnes_34 : decode cX0_knownOnes 34 = .ok (.iaload, 1) := by decide +kernel
theorem dX0_knownOnes_35 : decode cX0_knownOnes 35 = .ok (.iconst 1, 1) := by decide +kernel
theorem dX0_knownOnes_36 : decode cX0_knownOnes 36 = .ok (.if_icmp .ne 6, 3) := by decide +kernel
theorem dX0_knownOnes_39 : decode cX0_knownOnes 39 = .ok (.iinc 3 1, 3) := by decide +kernel
theorem dX0_knownOnes_42 : decode cX0_knownOnes 42 = .ok (.iinc 4 1, 3) := by decide +kernel
theorem dX0_knownOnes_45 : decode cX0_knownOnes 45 = .ok (.goto (-40), 3) := by decide +kernel
theorem dX0_knownOnes_48 : decode cX0_knownOnes 48 = .ok (.iload_n 3, 1) := by decide +kernel
theorem dX0_knownOnes_49 : decode cX0_knownOnes 49 = .ok (.ireturn, 1) := by decide +kernel
theorem dX0_pick_0 : decode cX0_pick 0 = .ok (.aload_n 0, 1) := by decide +kernel
theorem dX0_pick_1 : decode cX0_pick 1 = .ok (.getfield 27, 3) := by decide +kernel
theorem dX0_pick_4 : decode cX0_pick 4 = .ok (.iconst 0, 1) := by decide +kernel
theorem dX0_pick_5 : decode cX0_pick 5 = .ok (.invokestatic 44, 3) := by decide +kernel
theorem dX0_pick_8 : decode cX0_pick 8 = .ok (.aload_n 0, 1) := by decide +kernel
theorem dX0_pick_9 : decode cX0_pick 9 = .ok (.iconst 0, 1) := by decide +kernel
theorem dX0_pick_10 : decode cX0_pick 10 = .ok (.putfield 33, 3) := by decide +kernel
theorem dX0_pick_13 : decode cX0_pick 13 = .ok (.iconst 0, 1) := by decide +kernel
theorem dX0_pick_14 : decode cX0_pick 14 = .ok (.istore_n 3, 1) := by decide +kernel
theorem dX0_pick_15 : decode cX0_pick 15 = .ok (.iload_n 3, 1) := by decide +kernel
theorem dX0_pick_16 : decode cX0_pick 16 = .ok (.aload_n 0, 1) := by decide +kernel
theorem dX0_pick_17 : decode cX0_pick 17 = .ok (.getfield 37, 3) := by decide +kernel
theorem dX0_pick_20 : decode cX0_pick 20 = .ok (.if_icmp .ge 78, 3) := by decide +kernel
theorem dX0_pick_23 : decode cX0_pick 23 = .ok (.aload_n 0, 1) := by decide +kernel
theorem dX0_pick_24 : decode cX0_pick 24 = .ok (.getfield 15, 3) := by decide +kernel
theorem dX0_pick_27 : decode cX0_pick 27 = .ok (.iload_n 3, 1) := by decide +kernel
theorem dX0_pick_28 : decode cX0_pick 28 = .ok (.iaload, 1) := by decide +kernel
theorem dX0_pick_29 : decode cX0_pick 29 = .ok (.istore 4, 2) := by decide +kernel
theorem dX0_pick_31 : decode cX0_pick 31 = .ok (.aload_n 0, 1) := by decide +kernel
theorem dX0_pick_32 : decode cX0_pick 32 = .ok (.getfield 9, 3) := by decide +kernel
theorem dX0_pick_35 : decode cX0_pick 35 = .ok (.iload_n 3, 1) := by decide +kernel
theorem dX0_pick_36 : decode cX0_pick 36 = .ok (.iaload, 1) := by decide +kernel
theorem dX0_pick_37 : decode cX0_pick 37 = .ok (.iload_n 1, 1) := by decide +kernel
theorem dX0_pick_38 : decode cX0_pick 38 = .ok (.if_icmp .ne 54, 3) := by decide +kernel
theorem dX0_pick_41 : decode cX0_pick 41 = .ok (.aload_n 0, 1) := by decide +kernel
theorem dX0_pick_42 : decode cX0_pick 42 = .ok (.iload_n 3, 1) := by decide +kernel
theorem dX0_pick_43 : decode cX0_pick 43 = .ok (.iload_n 2, 1) := by decide +kernel
theorem dX0_pick_44 : decode cX0_pick 44 = .ok (.invokevirtual 40, 3) := by decide +kernel
theorem dX0_pick_47 : decode cX0_pick 47 = .ok (.ifCond .eq 45, 3) := by decide +kernel
theorem dX0_pick_50 : decode cX0_pick 50 = .ok (.aload_n 0, 1) := by decide +kernel
theorem dX0_pick_51 : decode cX0_pick 51 = .ok (.getfield 27, 3) := by decide +kernel
theorem dX0_pick_54 : decode cX0_pick 54 = .ok (.iload 4, 2) := by decide +kernel
theorem dX0_pick_56 : decode cX0_pick 56 = .ok (.iaload, 1) := by decide +kernel
theorem dX0_pick_57 : decode cX0_pick 57 = .ok (.iconst 2, 1) := by decide +kernel
theorem dX0_pick_58 : decode cX0_pick 58 = .ok (.if_icmp .ge 34, 3) := by decide +kernel
theorem dX0_pick_61 : decode cX0_pick 61 = .ok (.aload_n 0, 1) := by decide +kernel
theorem dX0_pick_62 : decode cX0_pick 62 = .ok (.getfield 30, 3) := by decide +kernel
theorem dX0_pick_65 : decode cX0_pick 65 = .ok (.aload_n 0, 1) := by decide +kernel
theorem dX0_pick_66 : decode cX0_pick 66 = .ok (.getfield 33, 3) := by decide +kernel
theorem dX0_pick_69 : decode cX0_pick 69 = .ok (.iload_n 3, 1) := by decide +kernel
theorem dX0_pick_70 : decode cX0_pick 70 = .ok (.iastore, 1) := by decide +kernel
theorem dX0_pick_71 : decode cX0_pick 71 = .ok (.aload_n 0, 1) := by decide +kernel
theorem dX0_pick_72 : decode cX0_pick 72 = .ok (.dup, 1) := by decide +kernel
theorem dX0_pick_73 : decode cX0_pick 73 = .ok (.getfield 33, 3) := by decide +kernel
theorem dX0_pick_76 : decode cX0_pick 76 = .ok (.iconst 1, 1) := by decide +kernel
theorem dX0_pick_77 : decode cX0_pick 77 = .ok (.iadd, 1) := by decide +kernel
theorem dX0_pick_78 : decode cX0_pick 78 = .ok (.putfield 33, 3) := by decide +kernel
theorem dX0_pick_81 : decode cX0_pick 81 = .ok (.aload_n 0, 1) := by decide +kernel
theorem dX0_pick_82 : decode cX0_pick 82 = .ok (.getfield 27, 3) := by decide +kernel
theorem dX0_pick_85 : decode cX0_pick 85 = .ok (.iload 4, 2) := by decide +kernel
theorem dX0_pick_87 : decode cX0_pick 87 = .ok (.dup2, 1) := by decide +kernel
theorem dX0_pick_88 : decode cX0_pick 88 = .ok (.iaload, 1) := by decide +kernel
theorem dX0_pick_89 : decode cX0_pick 89 = .ok (.iconst 1, 1) := by decide +kernel
theorem dX0_pick_90 : decode cX0_pick 90 = .ok (.iadd, 1) := by decide +kernel
theorem dX0_pick_91 : decode cX0_pick 91 = .ok (.iastore, 1) := by decide +kernel
theorem dX0_pick_92 : decode cX0_pick 92 = .ok (.iinc 3 1, 3) := by decide +kernel
theorem dX0_pick_95 : decode cX0_pick 95 = .ok (.goto (-80), 3) := by decide +kernel
theorem dX0_pick_98 : decode cX0_pick 98 = .ok (.return_, 1) := by decide +kernel
theorem dX1_init_0 : decode cX1_init 0 = .ok (.aload_n 0, 1) := by decide +kernel
theorem dX1_init_1 : decode cX1_init 1 = .ok (.invokespecial 3, 3) := by decide +kernel
theorem dX1_init_4 : decode cX1_init 4 = .ok (.aload_n 0, 1) := by decide +kernel
theorem dX1_init_5 : decode cX1_init 5 = .ok (.bipush 60, 2) := by decide +kernel
theorem dX1_init_7 : decode cX1_init 7 = .ok (.newarray .int, 2) := by decide +kernel
theorem dX1_init_9 : decode cX1_init 9 = .ok (.putfield 9, 3) := by decide +kernel
theorem dX1_init_12 : decode cX1_init 12 = .ok (.aload_n 0, 1) := by decide +kernel
theorem dX1_init_13 : decode cX1_init 13 = .ok (.iconst 5, 1) := by decide +kernel
theorem dX1_init_14 : decode cX1_init 14 = .ok (.newarray .long, 2) := by decide +kernel
theorem dX1_init_16 : decode cX1_init 16 = .ok (.putfield 15, 3) := by decide +kernel
theorem dX1_init_19 : decode cX1_init 19 = .ok (.aload_n 0, 1) := by decide +kernel
theorem dX1_init_20 : decode cX1_init 20 = .ok (.ldc2_w 19, 3) := by decide +kernel
theorem dX1_init_23 : decode cX1_init 23 = .ok (.putfield 21, 3) := by decide +kernel
theorem dX1_init_26 : decode cX1_init 26 = .ok (.aload_n 0, 1) := by decide +kernel
theorem dX1_init_27 : decode cX1_init 27 = .ok (.iconst 0, 1) := by decide +kernel
theorem dX1_init_28 : decode cX1_init 28 = .ok (.putfield 25, 3) := by decide +kernel
theorem dX1_init_31 : decode cX1_init 31 = .ok (.aload_n 0, 1) := by decide +kernel
theorem dX1_init_32 : decode cX1_init 32 = .ok (.iconst 0, 1) := by decide +kernel
theorem dX1_init_33 : decode cX1_init 33 = .ok (.putfield 29, 3) := by decide +kernel
theorem dX1_init_36 : decode cX1_init 36 = .ok (.aload_n 0, 1) := by decide +kernel
theorem dX1_init_37 : decode cX1_init 37 = .ok (.iconst 0, 1) := by decide +kernel
theorem dX1_init_38 : decode cX1_init 38 = .ok (.putfield 32, 3) := by decide +kernel
theorem dX1_init_41 : decode cX1_init 41 = .ok (.aload_n 0, 1) := by decide +kernel
theorem dX1_init_42 : decode cX1_init 42 = .ok (.iconst 0, 1) := by decide +kernel
theorem dX1_init_43 : decode cX1_init 43 = .ok (.putfield 35, 3) := by decide +kernel
theorem dX1_init_46 : decode cX1_init 46 = .ok (.aload_n 0, 1) := by decide +kernel
theorem dX1_init_47 : decode cX1_init 47 = .ok (.iconst 0, 1) := by decide +kernel
theorem dX1_init_48 : decode cX1_init 48 = .ok (.putfield 38, 3) := by decide +kernel
theorem dX1_init_51 : decode cX1_init 51 = .ok (.aload_n 0, 1) := by decide +kernel
theorem dX1_init_52 : decode cX1_init 52 = .ok (.iconst 1, 1) := by decide +kernel
theorem dX1_init_53 : decode cX1_init 53 = .ok (.putfield 41, 3) := by decide +kernel
theorem dX1_init_56 : decode cX1_init 56 = .ok (.return_, 1) := by decide +kernel
theorem dX1_append_0 : decode cX1_append 0 = .ok (.aload_n 0, 1) := by decide +kernel
theorem dX1_append_1 : decode cX1_append 1 = .ok (.getfield 29, 3) := by decide +kernel
theorem dX1_append_4 : decode cX1_append 4 = .ok (.bipush 60, 2) := by decide +kernel
theorem dX1_append_6 : decode cX1_append 6 = .ok (.if_icmp .lt 5, 3) := by decide +kernel
theorem dX1_append_9 : decode cX1_append 9 = .ok (.iconst 0, 1) := by decide +kernel
theorem dX1_append_10 : decode cX1_append 10 = .ok (.ireturn, 1) := by decide +kernel
theorem dX1_append_11 : decode cX1_append 11 = .ok (.aload_n 0, 1) := by decide +kernel
theorem dX1_append_12 : decode cX1_append 12 = .ok (.getfield 9, 3) := by decide +kernel
theorem dX1_append_15 : decode cX1_append 15 = .ok (.aload_n 0, 1) := by decide +kernel
theorem dX1_append_16 : decode cX1_append 16 = .ok (.getfield 29, 3) := by decide +kernel
theorem dX1_append_19 : decode cX1_append 19 = .ok (.iload_n 1, 1) := by decide +kernel
theorem dX1_append_20 : decode cX1_append 20 = .ok (.iastore, 1) := by decide +kernel
theorem dX1_append_21 : decode cX1_append 21 = .ok (.aload_n 0, 1) := by decide +kernel
theorem dX1_append_22 : decode cX1_append 22 = .ok (.dup, 1) := by decide +kernel
theorem dX1_append_23 : decode cX1_append 23 = .ok (.getfield 29, 3) := by decide +kernel
theorem dX1_append_26 : decode cX1_append 26 = .ok (.iconst 1, 1) := by decide +kernel
theorem dX1_append_27 : decode cX1_append 27 = .ok (.iadd, 1) := by decide +kernel
theorem dX1_append_28 : decode cX1_append 28 = .ok (.putfield 29, 3) := by decide +kernel
theorem dX1_append_31 : decode cX1_append 31 = .ok (.iconst 1, 1) := by decide +kernel
theorem dX1_append_32 : decode cX1_append 32 = .ok (.ireturn, 1) := by decide +kernel
theorem dX1_empty_0 : decode cX1_empty 0 = .ok (.aload_n 0, 1) := by decide +kernel
theorem dX1_empty_1 : decode cX1_empty 1 = .ok (.iconst 0, 1) := by decide +kernel
theorem dX1_empty_2 : decode cX1_empty 2 = .ok (.putfield 29, 3) := by decide +kernel
theorem dX1_empty_5 : decode cX1_empty 5 = .ok (.return_, 1) := by decide +kernel
theorem dX1_settle_0 : decode cX1_settle 0 = .ok (.aload_n 0, 1) := by decide +kernel
theorem dX1_settle_1 : decode cX1_settle 1 = .ok (.aload_n 0, 1) := by decide +kernel
theorem dX1_settle_2 : decode cX1_settle 2 = .ok (.invokevirtual 44, 3) := by decide +kernel
theorem dX1_settle_5 : decode cX1_settle 5 = .ok (.putfield 32, 3) := by decide +kernel
theorem dX1_settle_8 : decode cX1_settle 8 = .ok (.aload_n 0, 1) := by decide +kernel
theorem dX1_settle_9 : decode cX1_settle 9 = .ok (.invokevirtual 48, 3) := by decide +kernel
theorem dX1_settle_12 : decode cX1_settle 12 = .ok (.ifCond .ne 8, 3) := by decide +kernel
theorem dX1_settle_15 : decode cX1_settle 15 = .ok (.aload_n 0, 1) := by decide +kernel
theorem dX1_settle_16 : decode cX1_settle 16 = .ok (.iload_n 1, 1) := by decide +kernel
theorem dX1_settle_17 : decode cX1_settle 17 = .ok (.invokevirtual 52, 3) := by decide +kernel
theorem dX1_settle_20 : decode cX1_settle 20 = .ok (.return_, 1) := by decide +kernel
theorem dX1_settleLots_0 : decode cX1_settleLots 0 = .ok (.ldc2_w 56, 3) := by decide +kernel
theorem dX1_settleLots_3 : decode cX1_settleLots 3 = .ok (.lstore_n 2, 1) := by decide +kernel
theorem dX1_settleLots_4 : decode cX1_settleLots 4 = .ok (.aload_n 0, 1) := by decide +kernel
theorem dX1_settleLots_5 : decode cX1_settleLots 5 = .ok (.getfield 15, 3) := by decide +kernel
theorem dX1_settleLots_8 : decode cX1_settleLots 8 = .ok (.iconst 2, 1) := by decide +kernel
theorem dX1_settleLots_9 : decode cX1_settleLots 9 = .ok (.laload, 1) := by decide +kernel
theorem dX1_settleLots_10 : decode cX1_settleLots 10 = .ok (.ldc2_w 58, 3) := by decide +kernel
theorem dX1_settleLots_13 : decode cX1_settleLots 13 = .ok (.lmul, 1) := by decide +kernel
theorem dX1_settleLots_14 : decode cX1_settleLots 14 = .ok (.aload_n 0, 1) := by decide +kernel
theorem dX1_settleLots_15 : decode cX1_settleLots 15 = .ok (.getfield 15, 3) := by decide +kernel
theorem dX1_settleLots_18 : decode cX1_settleLots 18 = .ok (.iconst 4, 1) := by decide +kernel
theorem dX1_settleLots_19 : decode cX1_settleLots 19 = .ok (.laload, 1) := by decide +kernel
theorem dX1_settleLots_20 : decode cX1_settleLots 20 = .ok (.iload_n 1, 1) := by decide +kernel
theorem dX1_settleLots_21 : decode cX1_settleLots 21 = .ok (.i2l, 1) := by decide +kernel
theorem dX1_settleLots_22 : decode cX1_settleLots 22 = .ok (.lmul, 1) := by decide +kernel
theorem dX1_settleLots_23 : decode cX1_settleLots 23 = .ok (.ladd, 1) := by decide +kernel
theorem dX1_settleLots_24 : decode cX1_settleLots 24 = .ok (.lstore 4, 2) := by decide +kernel
theorem dX1_settleLots_26 : decode cX1_settleLots 26 = .ok (.aload_n 0, 1) := by decide +kernel
theorem dX1_settleLots_27 : decode cX1_settleLots 27 = .ok (.getfield 15, 3) := by decide +kernel
theorem dX1_settleLots_30 : decode cX1_settleLots 30 = .ok (.iconst 0, 1) := by decide +kernel
theorem dX1_settleLots_31 : decode cX1_settleLots 31 = .ok (.laload, 1) := by decide +kernel
theorem dX1_settleLots_32 : decode cX1_settleLots 32 = .ok (.ldc2_w 58, 3) := by decide +kernel
theorem dX1_settleLots_35 : decode cX1_settleLots 35 = .ok (.lmul, 1) := by decide +kernel
theorem dX1_settleLots_36 : decode cX1_settleLots 36 = .ok (.lload 4, 2) := by decide +kernel
theorem dX1_settleLots_38 : decode cX1_settleLots 38 = .ok (.ladd, 1) := by decide +kernel
theorem dX1_settleLots_39 : decode cX1_settleLots 39 = .ok (.lstore 6, 2) := by decide +kernel
theorem dX1_settleLots_41 : decode cX1_settleLots 41 = .ok (.aload_n 0, 1) := by decide +kernel
theorem dX1_settleLots_42 : decode cX1_settleLots 42 = .ok (.getfield 15, 3) := by decide +kernel
theorem dX1_settleLots_45 : decode cX1_settleLots 45 = .ok (.iconst 1, 1) := by decide +kernel
theorem dX1_settleLots_46 : decode cX1_settleLots 46 = .ok (.laload, 1) := by decide +kernel
theorem dX1_settleLots_47 : decode cX1_settleLots 47 = .ok (.ldc2_w 58, 3) := by decide +kernel
theorem dX1_settleLots_50 : decode cX1_settleLots 50 = .ok (.lmul, 1) := by decide +kernel
theorem dX1_settleLots_51 : decode cX1_settleLots 51 = .ok (.lload 4, 2) := by decide +kernel
theorem dX1_settleLots_53 : decode cX1_settleLots 53 = .ok (.ladd, 1) := by decide +kernel
theorem dX1_settleLots_54 : decode cX1_settleLots 54 = .ok (.lstore 8, 2) := by decide +kernel
theorem dX1_settleLots_56 : decode cX1_settleLots 56 = .ok (.lload_n 2, 1) := by decide +kernel
theorem dX1_settleLots_57 : decode cX1_settleLots 57 = .ok (.lload 6, 2) := by decide +kernel
theorem dX1_settleLots_59 : decode cX1_settleLots 59 = .ok (.lload 8, 2) := by decide +kernel
theorem dX1_settleLots_61 : decode cX1_settleLots 61 = .ok (.invokestatic 60, 3) := by decide +kernel
theorem dX1_settleLots_64 : decode cX1_settleLots 64 = .ok (.invokestatic 60, 3) := by decide +kernel
theorem dX1_settleLots_67 : decode cX1_settleLots 67 = .ok (.lstore 10, 2) := by decide +kernel
theorem dX1_settleLots_69 : decode cX1_settleLots 69 = .ok (.lload 10, 2) := by decide +kernel
theorem dX1_settleLots_71 : decode cX1_settleLots 71 = .ok (.lconst 0, 1) := by decide +kernel
theorem dX1_settleLots_72 : decode cX1_settleLots 72 = .ok (.lcmp, 1) := by decide +kernel
theorem dX1_settleLots_73 : decode cX1_settleLots 73 = .ok (.ifCond .le 32, 3) := by decide +kernel
theorem dX1_settleLots_76 : decode cX1_settleLots 76 = .ok (.aload_n 0, 1) := by decide +kernel
theorem dX1_settleLots_77 : decode cX1_settleLots 77 = .ok (.lload_n 2, 1) := by decide +kernel
theorem dX1_settleLots_78 : decode cX1_settleLots 78 = .ok (.lload 10, 2) := by decide +kernel
theorem dX1_settleLots_80 : decode cX1_settleLots 80 = .ok (.ldiv, 1) := by decide +kernel
theorem dX1_settleLots_81 : decode cX1_settleLots 81 = .ok (.l2i, 1) := by decide +kernel
theorem dX1_settleLots_82 : decode cX1_settleLots 82 = .ok (.putfield 41, 3) := by decide +kernel
theorem dX1_settleLots_85 : decode cX1_settleLots 85 = .ok (.aload_n 0, 1) := by decide +kernel
theorem dX1_settleLots_86 : decode cX1_settleLots 86 = .ok (.lload 6, 2) := by decide +kernel
theorem dX1_settleLots_88 : decode cX1_settleLots 88 = .ok (.lload 10, 2) := by decide +kernel
theorem dX1_settleLots_90 : decode cX1_settleLots 90 = .ok (.ldiv, 1) := by decide +kernel
theorem dX1_settleLots_91 : decode cX1_settleLots 91 = .ok (.l2i, 1) := by decide +kernel
theorem dX1_settleLots_92 : decode cX1_settleLots 92 = .ok (.putfield 35, 3) := by decide +kernel
theorem dX1_settleLots_95 : decode cX1_settleLots 95 = .ok (.aload_n 0, 1) := by decide +kernel
theorem dX1_settleLots_96 : decode cX1_settleLots 96 = .ok (.lload 8, 2) := by decide +kernel
theorem dX1_settleLots_98 : decode cX1_settleLots 98 = .ok (.lload 10, 2) := by decide +kernel
theorem dX1_settleLots_100 : decode cX1_settleLots 100 = .ok (.ldiv, 1) := by decide +kernel
theorem dX1_settleLots_101 : decode cX1_settleLots 101 = .ok (.l2i, 1) := by decide +kernel
theorem dX1_settleLots_102 : decode cX1_settleLots 102 = .ok (.putfield 38, 3) := by decide +kernel
theorem dX1_settleLots_105 : decode cX1_settleLots 105 = .ok (.return_, 1) := by decide +kernel
theorem dX1_parse_0 : decode cX1_parse 0 = .ok (.aload_n 0, 1) := by decide +kernel
theorem dX1_parse_1 : decode cX1_parse 1 = .ok (.getfield 15, 3) := by decide +kernel
theorem dX1_parse_4 : decode cX1_parse 4 = .ok (.lconst 0, 1) := by decide +kernel
theorem dX1_parse_5 : decode cX1_parse 5 = .ok (.invokestatic 64, 3) := by decide +kernel
theorem dX1_parse_8 : decode cX1_parse 8 = .ok (.aload_n 0, 1) := by decide +kernel
theorem dX1_parse_9 : decode cX1_parse 9 = .ok (.ldc2_w 19, 3) := by decide +kernel
theorem dX1_parse_12 : decode cX1_parse 12 = .ok (.putfield 21, 3) := by decide +kernel
theorem dX1_parse_15 : decode cX1_parse 15 = .ok (.aload_n 0, 1) := by decide +kernel
theorem dX1_parse_16 : decode cX1_parse 16 = .ok (.iconst 0, 1) := by decide +kernel
theorem dX1_parse_17 : decode cX1_parse 17 = .ok (.putfield 25, 3) := by decide +kernel
theorem dX1_parse_20 : decode cX1_parse 20 = .ok (.iconst 0, 1) := by decide +kernel
theorem dX1_parse_21 : decode cX1_parse 21 = .ok (.istore_n 1, 1) := by decide +kernel
theorem dX1_parse_22 : decode cX1_parse 22 = .ok (.iload_n 1, 1) := by decide +kernel
theorem dX1_parse_23 : decode cX1_parse 23 = .ok (.bipush 60, 2) := by decide +kernel
theorem dX1_parse_25 : decode cX1_parse 25 = .ok (.if_icmp .ge 65, 3) := by decide +kernel
theorem dX1_parse_28 : decode cX1_parse 28 = .ok (.aload_n 0, 1) := by decide +kernel
theorem dX1_parse_29 : decode cX1_parse 29 = .ok (.invokevirtual 70, 3) := by decide +kernel
theorem dX1_parse_32 : decode cX1_parse 32 = .ok (.istore_n 2, 1) := by decide +kernel
theorem dX1_parse_33 : decode cX1_parse 33 = .ok (.iload_n 2, 1) := by decide +kernel
theorem dX1_parse_34 : decode cX1_parse 34 = .ok (.iconst (-1), 1) := by decide +kernel
theorem dX1_parse_35 : decode cX1_parse 35 = .ok (.if_icmp .eq 5, 3) := by decide +kernel
theorem dX1_parse_38 : decode cX1_parse 38 = .ok (.iload_n 2, 1) := by decide +kernel
theorem dX1_parse_39 : decode cX1_parse 39 = .ok (.ireturn, 1) := by decide +kernel
theorem dX1_parse_40 : decode cX1_parse 40 = .ok (.aload_n 0, 1) := by decide +kernel
theorem dX1_parse_41 : decode cX1_parse 41 = .ok (.getfield 25, 3) := by decide +kernel
theorem dX1_parse_44 : decode cX1_parse 44 = .ok (.aload_n 0, 1) := by decide +kernel
theorem dX1_parse_45 : decode cX1_parse 45 = .ok (.getfield 29, 3) := by decide +kernel
theorem dX1_parse_48 : decode cX1_parse 48 = .ok (.if_icmp .lt 8, 3) := by decide +kernel
theorem dX1_parse_51 : decode cX1_parse 51 = .ok (.aload_n 0, 1) := by decide +kernel
theorem dX1_parse_52 : decode cX1_parse 52 = .ok (.invokevirtual 73, 3) := by decide +kernel
theorem dX1_parse_55 : decode cX1_parse 55 = .ok (.ireturn, 1) := by decide +kernel
theorem dX1_parse_56 : decode cX1_parse 56 = .ok (.aload_n 0, 1) := by decide +kernel
theorem dX1_parse_57 : decode cX1_parse 57 = .ok (.aload_n 0, 1) := by decide +kernel
theorem dX1_parse_58 : decode cX1_parse 58 = .ok (.getfield 25, 3) := by decide +kernel
theorem dX1_parse_61 : decode cX1_parse 61 = .ok (.invokevirtual 76, 3) := by decide +kernel
theorem dX1_parse_64 : decode cX1_parse 64 = .ok (.bipush 59, 2) := by decide +kernel
theorem dX1_parse_66 : decode cX1_parse 66 = .ok (.if_icmp .eq 8, 3) := by decide +kernel
theorem dX1_parse_69 : decode cX1_parse 69 = .ok (.aload_n 0, 1) := by decide +kernel
theorem dX1_parse_70 : decode cX1_parse 70 = .ok (.getfield 25, 3) := by decide +kernel
theorem dX1_parse_73 : decode cX1_parse 73 = .ok (.ireturn, 1) := by decide +kernel
theorem dX1_parse_74 : decode cX1_parse 74 = .ok (.aload_n 0, 1) := by decide +kernel
theorem dX1_parse_75 : decode cX1_parse 75 = .ok (.dup, 1) := by decide +kernel
theorem dX1_parse_76 : decode cX1_parse 76 = .ok (.getfield 25, 3) := by decide +kernel
theorem dX1_parse_79 : decode cX1_parse 79 = .ok (.iconst 1, 1) := by decide +kernel
theorem dX1_parse_80 : decode cX1_parse 80 = .ok (.iadd, 1) := by decide +kernel
theorem dX1_parse_81 : decode cX1_parse 81 = .ok (.putfield 25, 3) := by decide +kernel
theorem dX1_parse_84 : decode cX1_parse 84 = .ok (.iinc 1 1, 3) := by decide +kernel
theorem dX1_parse_87 : decode cX1_parse 87 = .ok (.goto (-65), 3) := by decide +kernel
theorem dX1_parse_90 : decode cX1_parse 90 = .ok (.aload_n 0, 1) := by decide +kernel
theorem dX1_parse_91 : decode cX1_parse 91 = .ok (.getfield 29, 3) := by decide +kernel
theorem dX1_parse_94 : decode cX1_parse 94 = .ok (.ireturn, 1) := by decide +kernel
theorem dX1_parsePart_0 : decode cX1_parsePart 0 = .ok (.aload_n 0, 1) := by decide +kernel
theorem dX1_parsePart_1 : decode cX1_parsePart 1 = .ok (.aload_n 0, 1) := by decide +kernel
theorem dX1_parsePart_2 : decode cX1_parsePart 2 = .ok (.getfield 25, 3) := by decide +kernel
theorem dX1_parsePart_5 : decode cX1_parsePart 5 = .ok (.invokevirtual 76, 3) := by decide +kernel
theorem dX1_parsePart_8 : decode cX1_parsePart 8 = .ok (.invokestatic 80, 3) := by decide +kernel
theorem dX1_parsePart_11 : decode cX1_parsePart 11 = .ok (.istore_n 1, 1) := by decide +kernel
theorem dX1_parsePart_12 : decode cX1_parsePart 12 = .ok (.iload_n 1, 1) := by decide +kernel
theorem dX1_parsePart_13 : decode cX1_parsePart 13 = .ok (.iconst (-1), 1) := by decide +kernel
theorem dX1_parsePart_14 : decode cX1_parsePart 14 = .ok (.if_icmp .ne 8, 3) := by decide +kernel
theorem dX1_parsePart_17 : decode cX1_parsePart 17 = .ok (.aload_n 0, 1) := by decide +kernel
theorem dX1_parsePart_18 : decode cX1_parsePart 18 = .ok (.getfield 25, 3) := by decide +kernel
theorem dX1_parsePart_21 : decode cX1_parsePart 21 = .ok (.ireturn, 1) := by decide +kernel
theorem dX1_parsePart_22 : decode cX1_parsePart 22 = .ok (.aload_n 0, 1) := by decide +kernel
theorem dX1_parsePart_23 : decode cX1_parsePart 23 = .ok (.getfield 25, 3) := by decide +kernel
theorem dX1_parsePart_26 : decode cX1_parsePart 26 = .ok (.iconst 1, 1) := by decide +kernel
theorem dX1_parsePart_27 : decode cX1_parsePart 27 = .ok (.iadd, 1) := by decide +kernel
theorem dX1_parsePart_28 : decode cX1_parsePart 28 = .ok (.istore_n 2, 1) := by decide +kernel
theorem dX1_parsePart_29 : decode cX1_parsePart 29 = .ok (.aload_n 0, 1) := by decide +kernel
theorem dX1_parsePart_30 : decode cX1_parsePart 30 = .ok (.iload_n 2, 1) := by decide +kernel
theorem dX1_parsePart_31 : decode cX1_parsePart 31 = .ok (.putfield 25, 3) := by decide +kernel
theorem dX1_parsePart_34 : decode cX1_parsePart 34 = .ok (.aload_n 0, 1) := by decide +kernel
theorem dX1_parsePart_35 : decode cX1_parsePart 35 = .ok (.invokevirtual 83, 3) := by decide +kernel
theorem dX1_parsePart_38 : decode cX1_parsePart 38 = .ok (.istore_n 3, 1) := by decide +kernel
theorem dX1_parsePart_39 : decode cX1_parsePart 39 = .ok (.iload_n 3, 1) := by decide +kernel
theorem dX1_parsePart_40 : decode cX1_parsePart 40 = .ok (.bipush 20, 2) := by decide +kernel
theorem dX1_parsePart_42 : decode cX1_parsePart 42 = .ok (.if_icmp .le 5, 3) := by decide +kernel
theorem dX1_parsePart_45 : decode cX1_parsePart 45 = .ok (.iload_n 2, 1) := by decide +kernel
theorem dX1_parsePart_46 : decode cX1_parsePart 46 = .ok (.ireturn, 1) := by decide +kernel
theorem dX1_parsePart_47 : decode cX1_parsePart 47 = .ok (.iload_n 3, 1) := by decide +kernel
theorem dX1_parsePart_48 : decode cX1_parsePart 48 = .ok (.iconst (-1), 1) := by decide +kernel
theorem dX1_parsePart_49 : decode cX1_parsePart 49 = .ok (.if_icmp .eq 16, 3) := by decide +kernel
theorem dX1_parsePart_52 : decode cX1_parsePart 52 = .ok (.aload_n 0, 1) := by decide +kernel
theorem dX1_parsePart_53 : decode cX1_parsePart 53 = .ok (.aload_n 0, 1) := by decide +kernel
theorem dX1_parsePart_54 : decode cX1_parsePart 54 = .ok (.getfield 25, 3) := by decide +kernel
theorem dX1_parsePart_57 : decode cX1_parsePart 57 = .ok (.invokevirtual 76, 3) := by decide +kernel
theorem dX1_parsePart_60 : decode cX1_parsePart 60 = .ok (.bipush 47, 2) := by decide +kernel
theorem dX1_parsePart_62 : decode cX1_parsePart 62 = .ok (.if_icmp .eq 8, 3) := by decide +kernel
theorem dX1_parsePart_65 : decode cX1_parsePart 65 = .ok (.aload_n 0, 1) := by decide +kernel
theorem dX1_parsePart_66 : decode cX1_parsePart 66 = .ok (.getfield 25, 3) := by decide +kernel
theorem dX1_parsePart_69 : decode cX1_parsePart 69 = .ok (.ireturn, 1) := by decide +kernel
theorem dX1_parsePart_70 : decode cX1_parsePart 70 = .ok (.aload_n 0, 1) := by decide +kernel
theorem dX1_parsePart_71 : decode cX1_parsePart 71 = .ok (.getfield 25, 3) := by decide +kernel
theorem dX1_parsePart_74 : decode cX1_parsePart 74 = .ok (.iconst 1, 1) := by decide +kernel
theorem dX1_parsePart_75 : decode cX1_parsePart 75 = .ok (.iadd, 1) := by decide +kernel
theorem dX1_parsePart_76 : decode cX1_parsePart 76 = .ok (.istore 4, 2) := by decide +kernel
theorem dX1_parsePart_78 : decode cX1_parsePart 78 = .ok (.aload_n 0, 1) := by decide +kernel
theorem dX1_parsePart_79 : decode cX1_parsePart 79 = .ok (.iload 4, 2) := by decide +kernel
theorem dX1_parsePart_81 : decode cX1_parsePart 81 = .ok (.putfield 25, 3) := by decide +kernel
theorem dX1_parsePart_84 : decode cX1_parsePart 84 = .ok (.aload_n 0, 1) := by decide +kernel
theorem dX1_parsePart_85 : decode cX1_parsePart 85 = .ok (.invokevirtual 83, 3) := by decide +kernel
theorem dX1_parsePart_88 : decode cX1_parsePart 88 = .ok (.istore 5, 2) := by decide +kernel
theorem dX1_parsePart_90 : decode cX1_parsePart 90 = .ok (.iload 5, 2) := by decide +kernel
theorem dX1_parsePart_92 : decode cX1_parsePart 92 = .ok (.iconst (-1), 1) := by decide +kernel
theorem dX1_parsePart_93 : decode cX1_parsePart 93 = .ok (.if_icmp .eq 22, 3) := by decide +kernel
theorem dX1_parsePart_96 : decode cX1_parsePart 96 = .ok (.iload 5, 2) := by decide +kernel
theorem dX1_parsePart_98 : decode cX1_parsePart 98 = .ok (.iconst 1, 1) := by decide +kernel
theorem dX1_parsePart_99 : decode cX1_parsePart 99 = .ok (.if_icmp .lt 16, 3) := by decide +kernel
theorem dX1_parsePart_102 : decode cX1_parsePart 102 = .ok (.iload 5, 2) := by decide +kernel
theorem dX1_parsePart_104 : decode cX1_parsePart 104 = .ok (.bipush 20, 2) := by decide +kernel
theorem dX1_parsePart_106 : decode cX1_parsePart 106 = .ok (.if_icmp .gt 9, 3) := by decide +kernel
theorem dX1_parsePart_109 : decode cX1_parsePart 109 = .ok (.iload 5, 2) := by decide +kernel
theorem dX1_parsePart_111 : decode cX1_parsePart 111 = .ok (.iload_n 3, 1) := by decide +kernel
theorem dX1_parsePart_112 : decode cX1_parsePart 112 = .ok (.if_icmp .ge 6, 3) := by decide +kernel
theorem dX1_parsePart_115 : decode cX1_parsePart 115 = .ok (.iload 4, 2) := by decide +kernel
theorem dX1_parsePart_117 : decode cX1_parsePart 117 = .ok (.ireturn, 1) := by decide +kernel
theorem dX1_parsePart_118 : decode cX1_parsePart 118 = .ok (.ldc2_w 19, 3) := by decide +kernel
theorem dX1_parsePart_121 : decode cX1_parsePart 121 = .ok (.iload 5, 2) := by decide +kernel
theorem dX1_parsePart_123 : decode cX1_parsePart 123 = .ok (.i2l, 1) := by decide +kernel
theorem dX1_parsePart_124 : decode cX1_parsePart 124 = .ok (.ldiv, 1) := by decide +kernel
theorem dX1_parsePart_125 : decode cX1_parsePart 125 = .ok (.iload_n 3, 1) := by decide +kernel
theorem dX1_parsePart_126 : decode cX1_parsePart 126 = .ok (.i2l, 1) := by decide +kernel
theorem dX1_parsePart_127 : decode cX1_parsePart 127 = .ok (.lmul, 1) := by decide +kernel
theorem dX1_parsePart_128 : decode cX1_parsePart 128 = .ok (.lstore 6, 2) := by decide +kernel
theorem dX1_parsePart_130 : decode cX1_parsePart 130 = .ok (.aload_n 0, 1) := by decide +kernel
theorem dX1_parsePart_131 : decode cX1_parsePart 131 = .ok (.getfield 15, 3) := by decide +kernel
theorem dX1_parsePart_134 : decode cX1_parsePart 134 = .ok (.iload_n 1, 1) := by decide +kernel
theorem dX1_parsePart_135 : decode cX1_parsePart 135 = .ok (.dup2, 1) := by decide +kernel
theorem dX1_parsePart_136 : decode cX1_parsePart 136 = .ok (.laload, 1) := by decide +kernel
theorem dX1_parsePart_137 : decode cX1_parsePart 137 = .ok (.lload 6, 2) := by decide +kernel
theorem dX1_parsePart_139 : decode cX1_parsePart 139 = .ok (.ladd, 1) := by decide +kernel
theorem dX1_parsePart_140 : decode cX1_parsePart 140 = .ok (.lastore, 1) := by decide +kernel
theorem dX1_parsePart_141 : decode cX1_parsePart 141 = .ok (.aload_n 0, 1) := by decide +kernel
theorem dX1_parsePart_142 : decode cX1_parsePart 142 = .ok (.aload_n 0, 1) := by decide +kernel
theorem dX1_parsePart_143 : decode cX1_parsePart 143 = .ok (.getfield 21, 3) := by decide +kernel
theorem dX1_parsePart_146 : decode cX1_parsePart 146 = .ok (.lload 6, 2) := by decide +kernel
theorem dX1_parsePart_148 : decode cX1_parsePart 148 = .ok (.invokestatic 60, 3) := by decide +kernel
theorem dX1_parsePart_151 : decode cX1_parsePart 151 = .ok (.putfield 21, 3) := by decide +kernel
theorem dX1_parsePart_154 : decode cX1_parsePart 154 = .ok (.iconst (-1), 1) := by decide +kernel
theorem dX1_parsePart_155 : decode cX1_parsePart 155 = .ok (.ireturn, 1) := by decide +kernel
theorem dX1_parseNumber_0 : decode cX1_parseNumber 0 = .ok (.aload_n 0, 1) := by decide +kernel
theorem dX1_parseNumber_1 : decode cX1_parseNumber 1 = .ok (.aload_n 0, 1) := by decide +kernel
theorem dX1_parseNumber_2 : decode cX1_parseNumber 2 = .ok (.getfield 25, 3) := by decide +kernel
theorem dX1_parseNumber_5 : decode cX1_parseNumber 5 = .ok (.invokevirtual 86, 3) := by decide +kernel
theorem dX1_parseNumber_8 : decode cX1_parseNumber 8 = .ok (.istore_n 1, 1) := by decide +kernel
theorem dX1_parseNumber_9 : decode cX1_parseNumber 9 = .ok (.iload_n 1, 1) := by decide +kernel
theorem dX1_parseNumber_10 : decode cX1_parseNumber 10 = .ok (.iconst (-1), 1) := by decide +kernel
theorem dX1_parseNumber_11 : decode cX1_parseNumber 11 = .ok (.if_icmp .ne 5, 3) := by decide +kernel
theorem dX1_parseNumber_14 : decode cX1_parseNumber 14 = .ok (.iconst (-1), 1) := by decide +kernel
theorem dX1_parseNumber_15 : decode cX1_parseNumber 15 = .ok (.ireturn, 1) := by decide +kernel
theorem dX1_parseNumber_16 : decode cX1_parseNumber 16 = .ok (.aload_n 0, 1) := by decide +kernel
theorem dX1_parseNumber_17 : decode cX1_parseNumber 17 = .ok (.dup, 1) := by decide +kernel
theorem dX1_parseNumber_18 : decode cX1_parseNumber 18 = .ok (.getfield 25, 3) := by decide +kernel
theorem dX1_parseNumber_21 : decode cX1_parseNumber 21 = .ok (.iconst 1, 1) := by decide +kernel
theorem dX1_parseNumber_22 : decode cX1_parseNumber 22 = .ok (.iadd, 1) := by decide +kernel
theorem dX1_parseNumber_23 : decode cX1_parseNumber 23 = .ok (.putfield 25, 3) := by decide +kernel
theorem dX1_parseNumber_26 : decode cX1_parseNumber 26 = .ok (.aload_n 0, 1) := by decide +kernel
theorem dX1_parseNumber_27 : decode cX1_parseNumber 27 = .ok (.aload_n 0, 1) := by decide +kernel
theorem dX1_parseNumber_28 : decode cX1_parseNumber 28 = .ok (.getfield 25, 3) := by decide +kernel
theorem dX1_parseNumber_31 : decode cX1_parseNumber 31 = .ok (.invokevirtual 86, 3) := by decide +kernel
theorem dX1_parseNumber_34 : decode cX1_parseNumber 34 = .ok (.istore_n 2, 1) := by decide +kernel
theorem dX1_parseNumber_35 : decode cX1_parseNumber 35 = .ok (.iload_n 2, 1) := by decide +kernel
theorem dX1_parseNumber_36 : decode cX1_parseNumber 36 = .ok (.iconst (-1), 1) := by decide +kernel
theorem dX1_parseNumber_37 : decode cX1_parseNumber 37 = .ok (.if_icmp .ne 5, 3) := by decide +kernel
theorem dX1_parseNumber_40 : decode cX1_parseNumber 40 = .ok (.iload_n 1, 1) := by decide +kernel
theorem dX1_parseNumber_41 : decode cX1_parseNumber 41 = .ok (.ireturn, 1) := by decide +kernel
theorem dX1_parseNumber_42 : decode cX1_parseNumber 42 = .ok (.aload_n 0, 1) := by decide +kernel
theorem dX1_parseNumber_43 : decode cX1_parseNumber 43 = .ok (.dup, 1) := by decide +kernel
theorem dX1_parseNumber_44 : decode cX1_parseNumber 44 = .ok (.getfield 25, 3) := by decide +kernel
theorem dX1_parseNumber_47 : decode cX1_parseNumber 47 = .ok (.iconst 1, 1) := by decide +kernel
theorem dX1_parseNumber_48 : decode cX1_parseNumber 48 = .ok (.iadd, 1) := by decide +kernel
theorem dX1_parseNumber_49 : decode cX1_parseNumber 49 = .ok (.putfield 25, 3) := by decide +kernel
theorem dX1_parseNumber_52 : decode cX1_parseNumber 52 = .ok (.iload_n 1, 1) := by decide +kernel
theorem dX1_parseNumber_53 : decode cX1_parseNumber 53 = .ok (.bipush 10, 2) := by decide +kernel
theorem dX1_parseNumber_55 : decode cX1_parseNumber 55 = .ok (.imul, 1) := by decide +kernel
theorem dX1_parseNumber_56 : decode cX1_parseNumber 56 = .ok (.iload_n 2, 1) := by decide +kernel
theorem dX1_parseNumber_57 : decode cX1_parseNumber 57 = .ok (.iadd, 1) := by decide +kernel
theorem dX1_parseNumber_58 : decode cX1_parseNumber 58 = .ok (.ireturn, 1) := by decide +kernel
theorem dX1_faultOfShares_0 : decode cX1_faultOfShares 0 = .ok (.lconst 0, 1) := by decide +kernel
theorem dX1_faultOfShares_1 : decode cX1_faultOfShares 1 = .ok (.lstore_n 1, 1) := by decide +kernel
theorem dX1_faultOfShares_2 : decode cX1_faultOfShares 2 = .ok (.iconst 0, 1) := by decide +kernel
theorem dX1_faultOfShares_3 : decode cX1_faultOfShares 3 = .ok (.istore_n 3, 1) := by decide +kernel
theorem dX1_faultOfShares_4 : decode cX1_faultOfShares 4 = .ok (.iload_n 3, 1) := by decide +kernel
theorem dX1_faultOfShares_5 : decode cX1_faultOfShares 5 = .ok (.iconst 5, 1) := by decide +kernel
theorem dX1_faultOfShares_6 : decode cX1_faultOfShares 6 = .ok (.if_icmp .ge 18, 3) := by decide +kernel
theorem dX1_faultOfShares_9 : decode cX1_faultOfShares 9 = .ok (.lload_n 1, 1) := by decide +kernel
theorem dX1_faultOfShares_10 : decode cX1_faultOfShares 10 = .ok (.aload_n 0, 1) := by decide +kernel
theorem dX1_faultOfShares_11 : decode cX1_faultOfShares 11 = .ok (.getfield 15, 3) := by decide +kernel
theorem dX1_faultOfShares_14 : decode cX1_faultOfShares 14 = .ok (.iload_n 3, 1) := by decide +kernel
theorem dX1_faultOfShares_15 : decode cX1_faultOfShares 15 = .ok (.laload, 1) := by decide +kernel
theorem dX1_faultOfShares_16 : decode cX1_faultOfShares 16 = .ok (.ladd, 1) := by decide +kernel
theorem dX1_faultOfShares_17 : decode cX1_faultOfShares 17 = .ok (.lstore_n 1, 1) := by decide +kernel
theorem dX1_faultOfShares_18 : decode cX1_faultOfShares 18 = .ok (.iinc 3 1, 3) := by decide +kernel
theorem dX1_faultOfShares_21 : decode cX1_faultOfShares 21 = .ok (.goto (-17), 3) := by decide +kernel
theorem dX1_faultOfShares_24 : decode cX1_faultOfShares 24 = .ok (.lload_n 1, 1) := by decide +kernel
theorem dX1_faultOfShares_25 : decode cX1_faultOfShares 25 = .ok (.ldc2_w 19, 3) := by decide +kernel
theorem dX1_faultOfShares_28 : decode cX1_faultOfShares 28 = .ok (.lcmp, 1) := by decide +kernel
theorem dX1_faultOfShares_29 : decode cX1_faultOfShares 29 = .ok (.ifCond .ne 31, 3) := by decide +kernel
theorem dX1_faultOfShares_32 : decode cX1_faultOfShares 32 = .ok (.aload_n 0, 1) := by decide +kernel
theorem dX1_faultOfShares_33 : decode cX1_faultOfShares 33 = .ok (.getfield 21, 3) := by decide +kernel
theorem dX1_faultOfShares_36 : decode cX1_faultOfShares 36 = .ok (.lconst 0, 1) := by decide +kernel
theorem dX1_faultOfShares_37 : decode cX1_faultOfShares 37 = .ok (.lcmp, 1) := by decide +kernel
theorem dX1_faultOfShares_38 : decode cX1_faultOfShares 38 = .ok (.ifCond .le 22, 3) := by decide +kernel
theorem dX1_faultOfShares_41 : decode cX1_faultOfShares 41 = .ok (.ldc2_w 19, 3) := by decide +kernel
theorem dX1_faultOfShares_44 : decode cX1_faultOfShares 44 = .ok (.aload_n 0, 1) := by decide +kernel
theorem dX1_faultOfShares_45 : decode cX1_faultOfShares 45 = .ok (.getfield 21, 3) := by decide +kernel
theorem dX1_faultOfShares_48 : decode cX1_faultOfShares 48 = .ok (.ldiv, 1) := by decide +kernel
theorem dX1_faultOfShares_49 : decode cX1_faultOfShares 49 = .ok (.ldc2_w 58, 3) := by decide +kernel
theorem dX1_faultOfShares_52 : decode cX1_faultOfShares 52 = .ok (.lcmp, 1) := by decide +kernel
theorem dX1_faultOfShares_53 : decode cX1_faultOfShares 53 = .ok (.ifCond .gt 7, 3) := by decide +kernel
theorem dX1_faultOfShares_56 : decode cX1_faultOfShares 56 = .ok (.iconst 1, 1) := by decide +kernel
theorem dX1_faultOfShares_57 : decode cX1_faultOfShares 57 = .ok (.goto 4, 3) := by decide +kernel
theorem dX1_faultOfShares_60 : decode cX1_faultOfShares 60 = .ok (.iconst 0, 1) := by decide +kernel
theorem dX1_faultOfShares_61 : decode cX1_faultOfShares 61 = .ok (.istore_n 3, 1) := by decide +kernel
theorem dX1_faultOfShares_62 : decode cX1_faultOfShares 62 = .ok (.iload_n 3, 1) := by decide +kernel
theorem dX1_faultOfShares_63 : decode cX1_faultOfShares 63 = .ok (.ifCond .eq 7, 3) := by decide +kernel
theorem dX1_faultOfShares_66 : decode cX1_faultOfShares 66 = .ok (.iconst (-1), 1) := by decide +kernel
theorem dX1_faultOfShares_67 : decode cX1_faultOfShares 67 = .ok (.goto 7, 3) := by decide +kernel
theorem dX1_faultOfShares_70 : decode cX1_faultOfShares 70 = .ok (.aload_n 0, 1) := by decide +kernel
theorem dX1_faultOfShares_71 : decode cX1_faultOfShares 71 = .ok (.getfield 29, 3) := by decide +kernel
theorem dX1_faultOfShares_74 : decode cX1_faultOfShares 74 = .ok (.ireturn, 1) := by decide +kernel
theorem dX1_byteAt_0 : decode cX1_byteAt 0 = .ok (.iload_n 1, 1) := by decide +kernel
theorem dX1_byteAt_1 : decode cX1_byteAt 1 = .ok (.ifCond .lt 26, 3) := by decide +kernel
theorem dX1_byteAt_4 : decode cX1_byteAt 4 = .ok (.iload_n 1, 1) := by decide +kernel
theorem dX1_byteAt_5 : decode cX1_byteAt 5 = .ok (.aload_n 0, 1) := by decide +kernel
theorem dX1_byteAt_6 : decode cX1_byteAt 6 = .ok (.getfield 29, 3) := by decide +kernel
theorem dX1_byteAt_9 : decode cX1_byteAt 9 = .ok (.if_icmp .ge 18, 3) := by decide +kernel
theorem dX1_byteAt_12 : decode cX1_byteAt 12 = .ok (.iload_n 1, 1) := by decide +kernel
theorem dX1_byteAt_13 : decode cX1_byteAt 13 = .ok (.bipush 60, 2) := by decide +kernel
theorem dX1_byteAt_15 : decode cX1_byteAt 15 = .ok (.if_icmp .ge 12, 3) := by decide +kernel
theorem dX1_byteAt_18 : decode cX1_byteAt 18 = .ok (.aload_n 0, 1) := by decide +kernel
theorem dX1_byteAt_19 : decode cX1_byteAt 19 = .ok (.getfield 9, 3) := by decide +kernel
theorem dX1_byteAt_22 : decode cX1_byteAt 22 = .ok (.iload_n 1, 1) := by decide +kernel
theorem dX1_byteAt_23 : decode cX1_byteAt 23 = .ok (.iaload, 1) := by decide +kernel
theorem dX1_byteAt_24 : decode cX1_byteAt 24 = .ok (.goto 4, 3) := by decide +kernel
theorem dX1_byteAt_27 : decode cX1_byteAt 27 = .ok (.iconst (-1), 1) := by decide +kernel
theorem dX1_byteAt_28 : decode cX1_byteAt 28 = .ok (.ireturn, 1) := by decide +kernel
theorem dX1_figureAt_0 : decode cX1_figureAt 0 = .ok (.aload_n 0, 1) := by decide +kernel
theorem dX1_figureAt_1 : decode cX1_figureAt 1 = .ok (.iload_n 1, 1) := by decide +kernel
theorem dX1_figureAt_2 : decode cX1_figureAt 2 = .ok (.invokevirtual 76, 3) := by decide +kernel
theorem dX1_figureAt_5 : decode cX1_figureAt 5 = .ok (.istore_n 2, 1) := by decide +kernel
theorem dX1_figureAt_6 : decode cX1_figureAt 6 = .ok (.iload_n 2, 1) := by decide +kernel
theorem dX1_figureAt_7 : decode cX1_figureAt 7 = .ok (.bipush 48, 2) := by decide +kernel
theorem dX1_figureAt_9 : decode cX1_figureAt 9 = .ok (.if_icmp .lt 16, 3) := by decide +kernel
theorem dX1_figureAt_12 : decode cX1_figureAt 12 = .ok (.iload_n 2, 1) := by decide +kernel
theorem dX1_figureAt_13 : decode cX1_figureAt 13 = .ok (.bipush 57, 2) := by decide +kernel
theorem dX1_figureAt_15 : decode cX1_figureAt 15 = .ok (.if_icmp .gt 10, 3) := by decide +kernel
theorem dX1_figureAt_18 : decode cX1_figureAt 18 = .ok (.iload_n 2, 1) := by decide +kernel
theorem dX1_figureAt_19 : decode cX1_figureAt 19 = .ok (.bipush 48, 2) := by decide +kernel
theorem dX1_figureAt_21 : decode cX1_figureAt 21 = .ok (.isub, 1) := by decide +kernel
theorem dX1_figureAt_22 : decode cX1_figureAt 22 = .ok (.goto 4, 3) := by decide +kernel
theorem dX1_figureAt_25 : decode cX1_figureAt 25 = .ok (.iconst (-1), 1) := by decide +kernel
theorem dX1_figureAt_26 : decode cX1_figureAt 26 = .ok (.ireturn, 1) := by decide +kernel
theorem dX1_letterOf_0 : decode cX1_letterOf 0 = .ok (.iload_n 0, 1) := by decide +kernel
theorem dX1_letterOf_1 : decode cX1_letterOf 1 = .ok (.tableswitch 73 110 121 #[69, 65, 73, 73, 73, 73, 63, 71, 73, 73, 73, 67], 63) := by decide +kernel
theorem dX1_letterOf_64 : decode cX1_letterOf 64 = .ok (.iconst 0, 1) := by decide +kernel
theorem dX1_letterOf_65 : decode cX1_letterOf 65 = .ok (.ireturn, 1) := by decide +kernel
theorem dX1_letterOf_66 : decode cX1_letterOf 66 = .ok (.iconst 1, 1) := by decide +kernel
theorem dX1_letterOf_67 : decode cX1_letterOf 67 = .ok (.ireturn, 1) := by decide +kernel
theorem dX1_letterOf_68 : decode cX1_letterOf 68 = .ok (.iconst 2, 1) := by decide +kernel
theorem dX1_letterOf_69 : decode cX1_letterOf 69 = .ok (.ireturn, 1) := by decide +kernel
theorem dX1_letterOf_70 : decode cX1_letterOf 70 = .ok (.iconst 3, 1) := by decide +kernel
theorem dX1_letterOf_71 : decode cX1_letterOf 71 = .ok (.ireturn, 1) := by decide +kernel
theorem dX1_letterOf_72 : decode cX1_letterOf 72 = .ok (.iconst 4, 1) := by decide +kernel
theorem dX1_letterOf_73 : decode cX1_letterOf 73 = .ok (.ireturn, 1) := by decide +kernel
theorem dX1_letterOf_74 : decode cX1_letterOf 74 = .ok (.iconst (-1), 1) := by decide +kernel
theorem dX1_letterOf_75 : decode cX1_letterOf 75 = .ok (.ireturn, 1) := by decide +kernel
theorem dX1_isFaulty_0 : decode cX1_isFaulty 0 = .ok (.aload_n 0, 1) := by decide +kernel
theorem dX1_isFaulty_1 : decode cX1_isFaulty 1 = .ok (.getfield 32, 3) := by decide +kernel
theorem dX1_isFaulty_4 : decode cX1_isFaulty 4 = .ok (.iconst (-1), 1) := by decide +kernel
theorem dX1_isFaulty_5 : decode cX1_isFaulty 5 = .ok (.if_icmp .eq 7, 3) := by decide +kernel
theorem dX1_isFaulty_8 : decode cX1_isFaulty 8 = .ok (.iconst 1, 1) := by decide +kernel
theorem dX1_isFaulty_9 : decode cX1_isFaulty 9 = .ok (.goto 4, 3) := by decide +kernel
theorem dX1_isFaulty_12 : decode cX1_isFaulty 12 = .ok (.iconst 0, 1) := by decide +kernel
theorem dX1_isFaulty_13 : decode cX1_isFaulty 13 = .ok (.ireturn, 1) := by decide +kernel
theorem dX1_tells_0 : decode cX1_tells 0 = .ok (.aload_n 0, 1) := by decide +kernel
theorem dX1_tells_1 : decode cX1_tells 1 = .ok (.getfield 35, 3) := by decide +kernel
theorem dX1_tells_4 : decode cX1_tells 4 = .ok (.aload_n 0, 1) := by decide +kernel
theorem dX1_tells_5 : decode cX1_tells 5 = .ok (.getfield 38, 3) := by decide +kernel
theorem dX1_tells_8 : decode cX1_tells 8 = .ok (.if_icmp .eq 7, 3) := by decide +kernel
theorem dX1_tells_11 : decode cX1_tells 11 = .ok (.iconst 1, 1) := by decide +kernel
theorem dX1_tells_12 : decode cX1_tells 12 = .ok (.goto 4, 3) := by decide +kernel
theorem dX1_tells_15 : decode cX1_tells 15 = .ok (.iconst 0, 1) := by decide +kernel
theorem dX1_tells_16 : decode cX1_tells 16 = .ok (.ireturn, 1) := by decide +kernel
theorem dX1_isWide_0 : decode cX1_isWide 0 = .ok (.aload_n 0, 1) := by decide +kernel
theorem dX1_isWide_1 : decode cX1_isWide 1 = .ok (.getfield 41, 3) := by decide +kernel
theorem dX1_isWide_4 : decode cX1_isWide 4 = .ok (.bipush 24, 2) := by decide +kernel
theorem dX1_isWide_6 : decode cX1_isWide 6 = .ok (.if_icmp .le 7, 3) := by decide +kernel
theorem dX1_isWide_9 : decode cX1_isWide 9 = .ok (.iconst 1, 1) := by decide +kernel
theorem dX1_isWide_10 : decode cX1_isWide 10 = .ok (.goto 4, 3) := by decide +kernel
theorem dX1_isWide_13 : decode cX1_isWide 13 = .ok (.iconst 0, 1) := by decide +kernel
theorem dX1_isWide_14 : decode cX1_isWide 14 = .ok (.ireturn, 1) := by decide +kernel
theorem dX1_isOpen_0 : decode cX1_isOpen 0 = .ok (.aload_n 0, 1) := by decide +kernel
theorem dX1_isOpen_1 : decode cX1_isOpen 1 = .ok (.getfield 35, 3) := by decide +kernel
theorem dX1_isOpen_4 : decode cX1_isOpen 4 = .ok (.ifCond .le 36, 3) := by decide +kernel
theorem dX1_isOpen_7 : decode cX1_isOpen 7 = .ok (.aload_n 0, 1) := by decide +kernel
theorem dX1_isOpen_8 : decode cX1_isOpen 8 = .ok (.getfield 38, 3) := by decide +kernel
theorem dX1_isOpen_11 : decode cX1_isOpen 11 = .ok (.ifCond .le 29, 3) := by decide +kernel
theorem dX1_isOpen_14 : decode cX1_isOpen 14 = .ok (.aload_n 0, 1) := by decide +kernel
theorem dX1_isOpen_15 : decode cX1_isOpen 15 = .ok (.getfield 35, 3) := by decide +kernel
theorem dX1_isOpen_18 : decode cX1_isOpen 18 = .ok (.aload_n 0, 1) := by decide +kernel
theorem dX1_isOpen_19 : decode cX1_isOpen 19 = .ok (.getfield 41, 3) := by decide +kernel
theorem dX1_isOpen_22 : decode cX1_isOpen 22 = .ok (.if_icmp .ge 18, 3) := by decide +kernel
theorem dX1_isOpen_25 : decode cX1_isOpen 25 = .ok (.aload_n 0, 1) := by decide +kernel
theorem dX1_isOpen_26 : decode cX1_isOpen 26 = .ok (.getfield 38, 3) := by decide +kernel
theorem dX1_isOpen_29 : decode cX1_isOpen 29 = .ok (.aload_n 0, 1) := by decide +kernel
theorem dX1_isOpen_30 : decode cX1_isOpen 30 = .ok (.getfield 41, 3) := by decide +kernel
theorem dX1_isOpen_33 : decode cX1_isOpen 33 = .ok (.if_icmp .ge 7, 3) := by decide +kernel
theorem dX1_isOpen_36 : decode cX1_isOpen 36 = .ok (.iconst 1, 1) := by decide +kernel
theorem dX1_isOpen_37 : decode cX1_isOpen 37 = .ok (.goto 4, 3) := by decide +kernel
theorem dX1_isOpen_40 : decode cX1_isOpen 40 = .ok (.iconst 0, 1) := by decide +kernel
theorem dX1_isOpen_41 : decode cX1_isOpen 41 = .ok (.ireturn, 1) := by decide +kernel
theorem dX1_difference_0 : decode cX1_difference 0 = .ok (.aload_n 0, 1) := by decide +kernel
theorem dX1_difference_1 : decode cX1_difference 1 = .ok (.getfield 35, 3) := by decide +kernel
theorem dX1_difference_4 : decode cX1_difference 4 = .ok (.aload_n 0, 1) := by decide +kernel
theorem dX1_difference_5 : decode cX1_difference 5 = .ok (.getfield 38, 3) := by decide +kernel
theorem dX1_difference_8 : decode cX1_difference 8 = .ok (.isub, 1) := by decide +kernel
theorem dX1_difference_9 : decode cX1_difference 9 = .ok (.i2l, 1) := by decide +kernel
theorem dX1_difference_10 : decode cX1_difference 10 = .ok (.lreturn, 1) := by decide +kernel
theorem dX1_lotsIfHas_0 : decode cX1_lotsIfHas 0 = .ok (.iload_n 1, 1) := by decide +kernel
theorem dX1_lotsIfHas_1 : decode cX1_lotsIfHas 1 = .ok (.iconst 1, 1) := by decide +kernel
theorem dX1_lotsIfHas_2 : decode cX1_lotsIfHas 2 = .ok (.if_icmp .ne 11, 3) := by decide +kernel
theorem dX1_lotsIfHas_5 : decode cX1_lotsIfHas 5 = .ok (.aload_n 0, 1) := by decide +kernel
theorem dX1_lotsIfHas_6 : decode cX1_lotsIfHas 6 = .ok (.getfield 35, 3) := by decide +kernel
theorem dX1_lotsIfHas_9 : decode cX1_lotsIfHas 9 = .ok (.i2l, 1) := by decide +kernel
theorem dX1_lotsIfHas_10 : decode cX1_lotsIfHas 10 = .ok (.goto 13, 3) := by decide +kernel
theorem dX1_lotsIfHas_13 : decode cX1_lotsIfHas 13 = .ok (.aload_n 0, 1) := by decide +kernel
theorem dX1_lotsIfHas_14 : decode cX1_lotsIfHas 14 = .ok (.getfield 41, 3) := by decide +kernel
theorem dX1_lotsIfHas_17 : decode cX1_lotsIfHas 17 = .ok (.aload_n 0, 1) := by decide +kernel
theorem dX1_lotsIfHas_18 : decode cX1_lotsIfHas 18 = .ok (.getfield 35, 3) := by decide +kernel
theorem dX1_lotsIfHas_21 : decode cX1_lotsIfHas 21 = .ok (.isub, 1) := by decide +kernel
theorem dX1_lotsIfHas_22 : decode cX1_lotsIfHas 22 = .ok (.i2l, 1) := by decide +kernel
theorem dX1_lotsIfHas_23 : decode cX1_lotsIfHas 23 = .ok (.lreturn, 1) := by decide +kernel
theorem dX1_lotsIfHasNot_0 : decode cX1_lotsIfHasNot 0 = .ok (.iload_n 1, 1) := by decide +kernel
theorem dX1_lotsIfHasNot_1 : decode cX1_lotsIfHasNot 1 = .ok (.iconst 1, 1) := by decide +kernel
theorem dX1_lotsIfHasNot_2 : decode cX1_lotsIfHasNot 2 = .ok (.if_icmp .ne 11, 3) := by decide +kernel
theorem dX1_lotsIfHasNot_5 : decode cX1_lotsIfHasNot 5 = .ok (.aload_n 0, 1) := by decide +kernel
theorem dX1_lotsIfHasNot_6 : decode cX1_lotsIfHasNot 6 = .ok (.getfield 38, 3) := by decide +kernel
theorem dX1_lotsIfHasNot_9 : decode cX1_lotsIfHasNot 9 = .ok (.i2l, 1) := by decide +kernel
theorem dX1_lotsIfHasNot_10 : decode cX1_lotsIfHasNot 10 = .ok (.goto 13, 3) := by decide +kernel
theorem dX1_lotsIfHasNot_13 : decode cX1_lotsIfHasNot 13 = .ok (.aload_n 0, 1) := by decide +kernel
theorem dX1_lotsIfHasNot_14 : decode cX1_lotsIfHasNot 14 = .ok (.getfield 41, 3) := by decide +kernel
theorem dX1_lotsIfHasNot_17 : decode cX1_lotsIfHasNot 17 = .ok (.aload_n 0, 1) := by decide +kernel
theorem dX1_lotsIfHasNot_18 : decode cX1_lotsIfHasNot 18 = .ok (.getfield 38, 3) := by decide +kernel
theorem dX1_lotsIfHasNot_21 : decode cX1_lotsIfHasNot 21 = .ok (.isub, 1) := by decide +kernel
theorem dX1_lotsIfHasNot_22 : decode cX1_lotsIfHasNot 22 = .ok (.i2l, 1) := by decide +kernel
theorem dX1_lotsIfHasNot_23 : decode cX1_lotsIfHasNot 23 = .ok (.lreturn, 1) := by decide +kernel
theorem dX1_weight_0 : decode cX1_weight 0 = .ok (.iload_n 1, 1) := by decide +kernel
theorem dX1_weight_1 : decode cX1_weight 1 = .ok (.ifCond .eq 28, 3) := by decide +kernel
theorem dX1_weight_4 : decode cX1_weight 4 = .ok (.iload_n 2, 1) := by decide +kernel
theorem dX1_weight_5 : decode cX1_weight 5 = .ok (.iconst 1, 1) := by decide +kernel
theorem dX1_weight_6 : decode cX1_weight 6 = .ok (.if_icmp .ne 16, 3) := by decide +kernel
theorem dX1_weight_9 : decode cX1_weight 9 = .ok (.aload_n 0, 1) := by decide +kernel
theorem dX1_weight_10 : decode cX1_weight 10 = .ok (.getfield 41, 3) := by decide +kernel
theorem dX1_weight_13 : decode cX1_weight 13 = .ok (.aload_n 0, 1) := by decide +kernel
theorem dX1_weight_14 : decode cX1_weight 14 = .ok (.getfield 38, 3) := by decide +kernel
theorem dX1_weight_17 : decode cX1_weight 17 = .ok (.isub, 1) := by decide +kernel
theorem dX1_weight_18 : decode cX1_weight 18 = .ok (.i2l, 1) := by decide +kernel
theorem dX1_weight_19 : decode cX1_weight 19 = .ok (.goto 9, 3) := by decide +kernel
theorem dX1_weight_22 : decode cX1_weight 22 = .ok (.aload_n 0, 1) := by decide +kernel
theorem dX1_weight_23 : decode cX1_weight 23 = .ok (.getfield 38, 3) := by decide +kernel
theorem dX1_weight_26 : decode cX1_weight 26 = .ok (.ineg, 1) := by decide +kernel
theorem dX1_weight_27 : decode cX1_weight 27 = .ok (.i2l, 1) := by decide +kernel
theorem dX1_weight_28 : decode cX1_weight 28 = .ok (.lreturn, 1) := by decide +kernel
theorem dX1_weight_29 : decode cX1_weight 29 = .ok (.iload_n 2, 1) := by decide +kernel
theorem dX1_weight_30 : decode cX1_weight 30 = .ok (.iconst 1, 1) := by decide +kernel
theorem dX1_weight_31 : decode cX1_weight 31 = .ok (.if_icmp .ne 16, 3) := by decide +kernel
theorem dX1_weight_34 : decode cX1_weight 34 = .ok (.aload_n 0, 1) := by decide +kernel
theorem dX1_weight_35 : decode cX1_weight 35 = .ok (.getfield 35, 3) := by decide +kernel
theorem dX1_weight_38 : decode cX1_weight 38 = .ok (.aload_n 0, 1) := by decide +kernel
theorem dX1_weight_39 : decode cX1_weight 39 = .ok (.getfield 41, 3) := by decide +kernel
theorem dX1_weight_42 : decode cX1_weight 42 = .ok (.isub, 1) := by decide +kernel
theorem dX1_weight_43 : decode cX1_weight 43 = .ok (.i2l, 1) := by decide +kernel
theorem dX1_weight_44 : decode cX1_weight 44 = .ok (.goto 8, 3) := by decide +kernel
theorem dX1_weight_47 : decode cX1_weight 47 = .ok (.aload_n 0, 1) := by decide +kernel
theorem dX1_weight_48 : decode cX1_weight 48 = .ok (.getfield 35, 3) := by decide +kernel
theorem dX1_weight_51 : decode cX1_weight 51 = .ok (.i2l, 1) := by decide +kernel
theorem dX1_weight_52 : decode cX1_weight 52 = .ok (.lreturn, 1) := by decide +kernel
theorem dX2_init_0 : decode cX2_init 0 = .ok (.aload_n 0, 1) := by decide +kernel
theorem dX2_init_1 : decode cX2_init 1 = .ok (.invokespecial 1, 3) := by decide +kernel
theorem dX2_init_4 : decode cX2_init 4 = .ok (.aload_n 0, 1) := by decide +kernel
theorem dX2_init_5 : decode cX2_init 5 = .ok (.lconst 0, 1) := by decide +kernel
theorem dX2_init_6 : decode cX2_init 6 = .ok (.putfield 7, 3) := by decide +kernel
theorem dX2_init_9 : decode cX2_init 9 = .ok (.aload_n 0, 1) := by decide +kernel
theorem dX2_init_10 : decode cX2_init 10 = .ok (.lconst 1, 1) := by decide +kernel
theorem dX2_init_11 : decode cX2_init 11 = .ok (.putfield 13, 3) := by decide +kernel
theorem dX2_init_14 : decode cX2_init 14 = .ok (.return_, 1) := by decide +kernel
theorem dX2_become_0 : decode cX2_become 0 = .ok (.lload_n 1, 1) := by decide +kernel
theorem dX2_become_1 : decode cX2_become 1 = .ok (.lload_n 3, 1) := by decide +kernel
theorem dX2_become_2 : decode cX2_become 2 = .ok (.invokestatic 16, 3) := by decide +kernel
theorem dX2_become_5 : decode cX2_become 5 = .ok (.lstore 5, 2) := by decide +kernel
theorem dX2_become_7 : decode cX2_become 7 = .ok (.lload_n 3, 1) := by decide +kernel
theorem dX2_become_8 : decode cX2_become 8 = .ok (.lconst 0, 1) := by decide +kernel
theorem dX2_become_9 : decode cX2_become 9 = .ok (.lcmp, 1) := by decide +kernel
theorem dX2_become_10 : decode cX2_become 10 = .ok (.ifCond .ge 8, 3) := by decide +kernel
theorem dX2_become_13 : decode cX2_become 13 = .ok (.lload 5, 2) := by decide +kernel
theorem dX2_become_15 : decode cX2_become 15 = .ok (.lneg, 1) := by decide +kernel
theorem dX2_become_16 : decode cX2_become 16 = .ok (.lstore 5, 2) := by decide +kernel
theorem dX2_become_18 : decode cX2_become 18 = .ok (.lload 5, 2) := by decide +kernel
theorem dX2_become_20 : decode cX2_become 20 = .ok (.lconst 0, 1) := by decide +kernel
theorem dX2_become_21 : decode cX2_become 21 = .ok (.lcmp, 1) := by decide +kernel
theorem dX2_become_22 : decode cX2_become 22 = .ok (.ifCond .eq 19, 3) := by decide +kernel
theorem dX2_become_25 : decode cX2_become 25 = .ok (.aload_n 0, 1) := by decide +kernel
theorem dX2_become_26 : decode cX2_become 26 = .ok (.lload_n 1, 1) := by decide +kernel
theorem dX2_become_27 : decode cX2_become 27 = .ok (.lload 5, 2) := by decide +kernel
theorem dX2_become_29 : decode cX2_become 29 = .ok (.ldiv, 1) := by decide +kernel
theorem dX2_become_30 : decode cX2_become 30 = .ok (.putfield 7, 3) := by decide +kernel
theorem dX2_become_33 : decode cX2_become 33 = .ok (.aload_n 0, 1) := by decide +kernel
theorem dX2_become_34 : decode cX2_become 34 = .ok (.lload_n 3, 1) := by decide +kernel
theorem dX2_become_35 : decode cX2_become 35 = .ok (.lload 5, 2) := by decide +kernel
theorem dX2_become_37 : decode cX2_become 37 = .ok (.ldiv, 1) := by decide +kernel
theorem dX2_become_38 : decode cX2_become 38 = .ok (.putfield 13, 3) := by decide +kernel
theorem dX2_become_41 : decode cX2_become 41 = .ok (.return_, 1) := by decide +kernel
theorem dX2_isAbove_0 : decode cX2_isAbove 0 = .ok (.aload_n 0, 1) := by decide +kernel
theorem dX2_isAbove_1 : decode cX2_isAbove 1 = .ok (.getfield 7, 3) := by decide +kernel
theorem dX2_isAbove_4 : decode cX2_isAbove 4 = .ok (.lload_n 1, 1) := by decide +kernel
theorem dX2_isAbove_5 : decode cX2_isAbove 5 = .ok (.lcmp, 1) := by decide +kernel
theorem dX2_isAbove_6 : decode cX2_isAbove 6 = .ok (.ifCond .gt 12, 3) := by decide +kernel
theorem dX2_isAbove_9 : decode cX2_isAbove 9 = .ok (.aload_n 0, 1) := by decide +kernel
theorem dX2_isAbove_10 : decode cX2_isAbove 10 = .ok (.getfield 13, 3) := by decide +kernel
theorem dX2_isAbove_13 : decode cX2_isAbove 13 = .ok (.lload_n 1, 1) := by decide +kernel
theorem dX2_isAbove_14 : decode cX2_isAbove 14 = .ok (.lcmp, 1) := by decide +kernel
theorem dX2_isAbove_15 : decode cX2_isAbove 15 = .ok (.ifCond .le 7, 3) := by decide +kernel
theorem dX2_isAbove_18 : decode cX2_isAbove 18 = .ok (.iconst 1, 1) := by decide +kernel
theorem dX2_isAbove_19 : decode cX2_isAbove 19 = .ok (.goto 4, 3) := by decide +kernel
theorem dX2_isAbove_22 : decode cX2_isAbove 22 = .ok (.iconst 0, 1) := by decide +kernel
theorem dX2_isAbove_23 : decode cX2_isAbove 23 = .ok (.ireturn, 1) := by decide +kernel
theorem dX2_told_0 : decode cX2_told 0 = .ok (.iload_n 1, 1) := by decide +kernel
theorem dX2_told_1 : decode cX2_told 1 = .ok (.ifCond .ne 10, 3) := by decide +kernel
theorem dX2_told_4 : decode cX2_told 4 = .ok (.aload_n 0, 1) := by decide +kernel
theorem dX2_told_5 : decode cX2_told 5 = .ok (.getfield 7, 3) := by decide +kernel
theorem dX2_told_8 : decode cX2_told 8 = .ok (.goto 7, 3) := by decide +kernel
theorem dX2_told_11 : decode cX2_told 11 = .ok (.aload_n 0, 1) := by decide +kernel
theorem dX2_told_12 : decode cX2_told 12 = .ok (.getfield 13, 3) := by decide +kernel
theorem dX2_told_15 : decode cX2_told 15 = .ok (.lreturn, 1) := by decide +kernel
theorem dX3_init_0 : decode cX3_init 0 = .ok (.aload_n 0, 1) := by decide +kernel
theorem dX3_init_1 : decode cX3_init 1 = .ok (.invokespecial 3, 3) := by decide +kernel
theorem dX3_init_4 : decode cX3_init 4 = .ok (.aload_n 0, 1) := by decide +kernel
theorem dX3_init_5 : decode cX3_init 5 = .ok (.bipush 13, 2) := by decide +kernel
theorem dX3_init_7 : decode cX3_init 7 = .ok (.newarray .long, 2) := by decide +kernel
theorem dX3_init_9 : decode cX3_init 9 = .ok (.putfield 9, 3) := by decide +kernel
theorem dX3_init_12 : decode cX3_init 12 = .ok (.return_, 1) := by decide +kernel
theorem dX3_fall_0 : decode cX3_fall 0 = .ok (.aload_n 0, 1) := by decide +kernel
theorem dX3_fall_1 : decode cX3_fall 1 = .ok (.getfield 9, 3) := by decide +kernel
theorem dX3_fall_4 : decode cX3_fall 4 = .ok (.lconst 0, 1) := by decide +kernel
theorem dX3_fall_5 : decode cX3_fall 5 = .ok (.invokestatic 15, 3) := by decide +kernel
theorem dX3_fall_8 : decode cX3_fall 8 = .ok (.aload_n 0, 1) := by decide +kernel
theorem dX3_fall_9 : decode cX3_fall 9 = .ok (.getfield 9, 3) := by decide +kernel
theorem dX3_fall_12 : decode cX3_fall 12 = .ok (.iconst 0, 1) := by decide +kernel
theorem dX3_fall_13 : decode cX3_fall 13 = .ok (.lconst 1, 1) := by decide +kernel
theorem dX3_fall_14 : decode cX3_fall 14 = .ok (.lastore, 1) := by decide +kernel
theorem dX3_fall_15 : decode cX3_fall 15 = .ok (.iconst 0, 1) := by decide +kernel
theorem dX3_fall_16 : decode cX3_fall 16 = .ok (.istore 4, 2) := by decide +kernel
theorem dX3_fall_18 : decode cX3_fall 18 = .ok (.iload 4, 2) := by decide +kernel
theorem dX3_fall_20 : decode cX3_fall 20 = .ok (.iload_n 2, 1) := by decide +kernel
theorem dX3_fall_21 : decode cX3_fall 21 = .ok (.if_icmp .ge 55, 3) := by decide +kernel
theorem dX3_fall_24 : decode cX3_fall 24 = .ok (.iload 4, 2) := by decide +kernel
theorem dX3_fall_26 : decode cX3_fall 26 = .ok (.bipush 12, 2) := by decide +kernel
theorem dX3_fall_28 : decode cX3_fall 28 = .ok (.if_icmp .ge 48, 3) := by decide +kernel
theorem dX3_fall_31 : decode cX3_fall 31 = .ok (.iload 4, 2) := by decide +kernel
theorem dX3_fall_33 : decode cX3_fall 33 = .ok (.iload_n 3, 1) := by decide +kernel
theorem dX3_fall_34 : decode cX3_fall 34 = .ok (.if_icmp .ge 11, 3) := by decide +kernel
theorem dX3_fall_37 : decode cX3_fall 37 = .ok (.aload_n 1, 1) := by decide +kernel
theorem dX3_fall_38 : decode cX3_fall 38 = .ok (.iconst 1, 1) := by decide +kernel
theorem dX3_fall_39 : decode cX3_fall 39 = .ok (.invokevirtual 21, 3) := by decide +kernel
theorem dX3_fall_42 : decode cX3_fall 42 = .ok (.goto 8, 3) := by decide +kernel
theorem dX3_fall_45 : decode cX3_fall 45 = .ok (.aload_n 1, 1) := by decide +kernel
theorem dX3_fall_46 : decode cX3_fall 46 = .ok (.iconst 1, 1) := by decide +kernel
theorem dX3_fall_47 : decode cX3_fall 47 = .ok (.invokevirtual 27, 3) := by decide +kernel
theorem dX3_fall_50 : decode cX3_fall 50 = .ok (.lstore 5, 2) := by decide +kernel
theorem dX3_fall_52 : decode cX3_fall 52 = .ok (.aload_n 0, 1) := by decide +kernel
theorem dX3_fall_53 : decode cX3_fall 53 = .ok (.lload 5, 2) := by decide +kernel
theorem dX3_fall_55 : decode cX3_fall 55 = .ok (.aload_n 1, 1) := by decide +kernel
theorem dX3_fall_56 : decode cX3_fall 56 = .ok (.getfield 30, 3) := by decide +kernel
theorem dX3_fall_59 : decode cX3_fall 59 = .ok (.i2l, 1) := by decide +kernel
theorem dX3_fall_60 : decode cX3_fall 60 = .ok (.lload 5, 2) := by decide +kernel
theorem dX3_fall_62 : decode cX3_fall 62 = .ok (.lsub, 1) := by decide +kernel
theorem dX3_fall_63 : decode cX3_fall 63 = .ok (.iload 4, 2) := by decide +kernel
theorem dX3_fall_65 : decode cX3_fall 65 = .ok (.iconst 1, 1) := by decide +kernel
theorem dX3_fall_66 : decode cX3_fall 66 = .ok (.iadd, 1) := by decide +kernel
theorem dX3_fall_67 : decode cX3_fall 67 = .ok (.invokevirtual 34, 3) := by decide +kernel
theorem dX3_fall_70 : decode cX3_fall 70 = .ok (.iinc 4 1, 3) := by decide +kernel
theorem dX3_fall_73 : decode cX3_fall 73 = .ok (.goto (-55), 3) := by decide +kernel
theorem dX3_fall_76 : decode cX3_fall 76 = .ok (.return_, 1) := by decide +kernel
theorem dX3_addPerson_0 : decode cX3_addPerson 0 = .ok (.iload 5, 2) := by decide +kernel
theorem dX3_addPerson_2 : decode cX3_addPerson 2 = .ok (.istore 6, 2) := by decide +kernel
theorem dX3_addPerson_4 : decode cX3_addPerson 4 = .ok (.iload 6, 2) := by decide +kernel
theorem dX3_addPerson_6 : decode cX3_addPerson 6 = .ok (.ifCond .le 37, 3) := by decide +kernel
theorem dX3_addPerson_9 : decode cX3_addPerson 9 = .ok (.aload_n 0, 1) := by decide +kernel
theorem dX3_addPerson_10 : decode cX3_addPerson 10 = .ok (.getfield 9, 3) := by decide +kernel
theorem dX3_addPerson_13 : decode cX3_addPerson 13 = .ok (.iload 6, 2) := by decide +kernel
theorem dX3_addPerson_15 : decode cX3_addPerson 15 = .ok (.aload_n 0, 1) := by decide +kernel
theorem dX3_addPerson_16 : decode cX3_addPerson 16 = .ok (.getfield 9, 3) := by decide +kernel
theorem dX3_addPerson_19 : decode cX3_addPerson 19 = .ok (.iload 6, 2) := by decide +kernel
theorem dX3_addPerson_21 : decode cX3_addPerson 21 = .ok (.laload, 1) := by decide +kernel
theorem dX3_addPerson_22 : decode cX3_addPerson 22 = .ok (.lload_n 3, 1) := by decide +kernel
theorem dX3_addPerson_23 : decode cX3_addPerson 23 = .ok (.lmul, 1) := by decide +kernel
theorem dX3_addPerson_24 : decode cX3_addPerson 24 = .ok (.aload_n 0, 1) := by decide +kernel
theorem dX3_addPerson_25 : decode cX3_addPerson 25 = .ok (.getfield 9, 3) := by decide +kernel
theorem dX3_addPerson_28 : decode cX3_addPerson 28 = .ok (.iload 6, 2) := by decide +kernel
theorem dX3_addPerson_30 : decode cX3_addPerson 30 = .ok (.iconst 1, 1) := by decide +kernel
theorem dX3_addPerson_31 : decode cX3_addPerson 31 = .ok (.isub, 1) := by decide +kernel
theorem dX3_addPerson_32 : decode cX3_addPerson 32 = .ok (.laload, 1) := by decide +kernel
theorem dX3_addPerson_33 : decode cX3_addPerson 33 = .ok (.lload_n 1, 1) := by decide +kernel
theorem dX3_addPerson_34 : decode cX3_addPerson 34 = .ok (.lmul, 1) := by decide +kernel
theorem dX3_addPerson_35 : decode cX3_addPerson 35 = .ok (.ladd, 1) := by decide +kernel
theorem dX3_addPerson_36 : decode cX3_addPerson 36 = .ok (.lastore, 1) := by decide +kernel
theorem dX3_addPerson_37 : decode cX3_addPerson 37 = .ok (.iinc 6 (-1), 3) := by decide +kernel
theorem dX3_addPerson_40 : decode cX3_addPerson 40 = .ok (.goto (-36), 3) := by decide +kernel
theorem dX3_addPerson_43 : decode cX3_addPerson 43 = .ok (.aload_n 0, 1) := by decide +kernel
theorem dX3_addPerson_44 : decode cX3_addPerson 44 = .ok (.getfield 9, 3) := by decide +kernel
theorem dX3_addPerson_47 : decode cX3_addPerson 47 = .ok (.iconst 0, 1) := by decide +kernel
theorem dX3_addPerson_48 : decode cX3_addPerson 48 = .ok (.dup2, 1) := by decide +kernel
theorem dX3_addPerson_49 : decode cX3_addPerson 49 = .ok (.laload, 1) := by decide +kernel
theorem dX3_addPerson_50 : decode cX3_addPerson 50 = .ok (.lload_n 3, 1) := by decide +kernel
theorem dX3_addPerson_51 : decode cX3_addPerson 51 = .ok (.lmul, 1) := by decide +kernel
theorem dX3_addPerson_52 : decode cX3_addPerson 52 = .ok (.lastore, 1) := by decide +kernel
theorem dX3_addPerson_53 : decode cX3_addPerson 53 = .ok (.return_, 1) := by decide +kernel
theorem dX3_among_0 : decode cX3_among 0 = .ok (.lconst 0, 1) := by decide +kernel
theorem dX3_among_1 : decode cX3_among 1 = .ok (.lstore_n 3, 1) := by decide +kernel
theorem dX3_among_2 : decode cX3_among 2 = .ok (.iload_n 1, 1) := by decide +kernel
theorem dX3_among_3 : decode cX3_among 3 = .ok (.iconst 0, 1) := by decide +kernel
theorem dX3_among_4 : decode cX3_among 4 = .ok (.invokestatic 38, 3) := by decide +kernel
theorem dX3_among_7 : decode cX3_among 7 = .ok (.istore 5, 2) := by decide +kernel
theorem dX3_among_9 : decode cX3_among 9 = .ok (.iload 5, 2) := by decide +kernel
theorem dX3_among_11 : decode cX3_among 11 = .ok (.iload_n 2, 1) := by decide +kernel
theorem dX3_among_12 : decode cX3_among 12 = .ok (.if_icmp .gt 26, 3) := by decide +kernel
theorem dX3_among_15 : decode cX3_among 15 = .ok (.iload 5, 2) := by decide +kernel
theorem dX3_among_17 : decode cX3_among 17 = .ok (.bipush 12, 2) := by decide +kernel
theorem dX3_among_19 : decode cX3_among 19 = .ok (.if_icmp .gt 19, 3) := by decide +kernel
theorem dX3_among_22 : decode cX3_among 22 = .ok (.lload_n 3, 1) := by decide +kernel
theorem dX3_among_23 : decode cX3_among 23 = .ok (.aload_n 0, 1) := by decide +kernel
theorem dX3_among_24 : decode cX3_among 24 = .ok (.getfield 9, 3) := by decide +kernel
theorem dX3_among_27 : decode cX3_among 27 = .ok (.iload 5, 2) := by decide +kernel
theorem dX3_among_29 : decode cX3_among 29 = .ok (.laload, 1) := by decide +kernel
theorem dX3_among_30 : decode cX3_among 30 = .ok (.ladd, 1) := by decide +kernel
theorem dX3_among_31 : decode cX3_among 31 = .ok (.lstore_n 3, 1) := by decide +kernel
theorem dX3_among_32 : decode cX3_among 32 = .ok (.iinc 5 1, 3) := by decide +kernel
theorem dX3_among_35 : decode cX3_among 35 = .ok (.goto (-26), 3) := by decide +kernel
theorem dX3_among_38 : decode cX3_among 38 = .ok (.lload_n 3, 1) := by decide +kernel
theorem dX3_among_39 : decode cX3_among 39 = .ok (.lreturn, 1) := by decide +kernel
theorem dX4_init_0 : decode cX4_init 0 = .ok (.aload_n 0, 1) := by decide +kernel
theorem dX4_init_1 : decode cX4_init 1 = .ok (.invokespecial 1, 3) := by decide +kernel
theorem dX4_init_4 : decode cX4_init 4 = .ok (.aload_n 0, 1) := by decide +kernel
theorem dX4_init_5 : decode cX4_init 5 = .ok (.iconst 0, 1) := by decide +kernel
theorem dX4_init_6 : decode cX4_init 6 = .ok (.putfield 7, 3) := by decide +kernel
theorem dX4_init_9 : decode cX4_init 9 = .ok (.aload_n 0, 1) := by decide +kernel
theorem dX4_init_10 : decode cX4_init 10 = .ok (.iconst 0, 1) := by decide +kernel
theorem dX4_init_11 : decode cX4_init 11 = .ok (.putfield 13, 3) := by decide +kernel
theorem dX4_init_14 : decode cX4_init 14 = .ok (.aload_n 0, 1) := by decide +kernel
theorem dX4_init_15 : decode cX4_init 15 = .ok (.iconst 0, 1) := by decide +kernel
theorem dX4_init_16 : decode cX4_init 16 = .ok (.putfield 16, 3) := by decide +kernel
theorem dX4_init_19 : decode cX4_init 19 = .ok (.return_, 1) := by decide +kernel
theorem dX4_begin_0 : decode cX4_begin 0 = .ok (.aload_n 0, 1) := by decide +kernel
theorem dX4_begin_1 : decode cX4_begin 1 = .ok (.iconst 0, 1) := by decide +kernel
theorem dX4_begin_2 : decode cX4_begin 2 = .ok (.putfield 7, 3) := by decide +kernel
theorem dX4_begin_5 : decode cX4_begin 5 = .ok (.aload_n 0, 1) := by decide +kernel
theorem dX4_begin_6 : decode cX4_begin 6 = .ok (.iconst 0, 1) := by decide +kernel
theorem dX4_begin_7 : decode cX4_begin 7 = .ok (.putfield 13, 3) := by decide +kernel
theorem dX4_begin_10 : decode cX4_begin 10 = .ok (.aload_n 0, 1) := by decide +kernel
theorem dX4_begin_11 : decode cX4_begin 11 = .ok (.iconst 0, 1) := by decide +kernel
theorem dX4_begin_12 : decode cX4_begin 12 = .ok (.putfield 16, 3) := by decide +kernel
theorem dX4_begin_15 : decode cX4_begin 15 = .ok (.return_, 1) := by decide +kernel
theorem dX4_hear_0 : decode cX4_hear 0 = .ok (.iconst 1, 1) := by decide +kernel
theorem dX4_hear_1 : decode cX4_hear 1 = .ok (.iload_n 1, 1) := by decide +kernel
theorem dX4_hear_2 : decode cX4_hear 2 = .ok (.ishl, 1) := by decide +kernel
theorem dX4_hear_3 : decode cX4_hear 3 = .ok (.istore_n 3, 1) := by decide +kernel
theorem dX4_hear_4 : decode cX4_hear 4 = .ok (.aload_n 0, 1) := by decide +kernel
theorem dX4_hear_5 : decode cX4_hear 5 = .ok (.getfield 7, 3) := by decide +kernel
theorem dX4_hear_8 : decode cX4_hear 8 = .ok (.iload_n 3, 1) := by decide +kernel
theorem dX4_hear_9 : decode cX4_hear 9 = .ok (.iand, 1) := by decide +kernel
theorem dX4_hear_10 : decode cX4_hear 10 = .ok (.ifCond .ne 33, 3) := by decide +kernel
theorem dX4_hear_13 : decode cX4_hear 13 = .ok (.aload_n 0, 1) := by decide +kernel
theorem dX4_hear_14 : decode cX4_hear 14 = .ok (.dup, 1) := by decide +kernel
theorem dX4_hear_15 : decode cX4_hear 15 = .ok (.getfield 7, 3) := by decide +kernel
theorem dX4_hear_18 : decode cX4_hear 18 = .ok (.iload_n 3, 1) := by decide +kernel
theorem dX4_hear_19 : decode cX4_hear 19 = .ok (.ior, 1) := by decide +kernel
theorem dX4_hear_20 : decode cX4_hear 20 = .ok (.putfield 7, 3) := by decide +kernel
theorem dX4_hear_23 : decode cX4_hear 23 = .ok (.aload_n 0, 1) := by decide +kernel
theorem dX4_hear_24 : decode cX4_hear 24 = .ok (.dup, 1) := by decide +kernel
theorem dX4_hear_25 : decode cX4_hear 25 = .ok (.getfield 13, 3) := by decide +kernel
theorem dX4_hear_28 : decode cX4_hear 28 = .ok (.iconst 1, 1) := by decide +kernel
theorem dX4_hear_29 : decode cX4_hear 29 = .ok (.iadd, 1) := by decide +kernel
theorem dX4_hear_30 : decode cX4_hear 30 = .ok (.putfield 13, 3) := by decide +kernel
theorem dX4_hear_33 : decode cX4_hear 33 = .ok (.aload_n 0, 1) := by decide +kernel
theorem dX4_hear_34 : decode cX4_hear 34 = .ok (.dup, 1) := by decide +kernel
theorem dX4_hear_35 : decode cX4_hear 35 = .ok (.getfield 16, 3) := by decide +kernel
theorem dX4_hear_38 : decode cX4_hear 38 = .ok (.iload_n 2, 1) := by decide +kernel
theorem dX4_hear_39 : decode cX4_hear 39 = .ok (.iadd, 1) := by decide +kernel
theorem dX4_hear_40 : decode cX4_hear 40 = .ok (.putfield 16, 3) := by decide +kernel
theorem dX4_hear_43 : decode cX4_hear 43 = .ok (.return_, 1) := by decide +kernel
theorem dX5_init_0 : decode cX5_init 0 = .ok (.aload_n 0, 1) := by decide +kernel
theorem dX5_init_1 : decode cX5_init 1 = .ok (.invokespecial 3, 3) := by decide +kernel
theorem dX5_init_4 : decode cX5_init 4 = .ok (.aload_n 0, 1) := by decide +kernel
theorem dX5_init_5 : decode cX5_init 5 = .ok (.bipush 60, 2) := by decide +kernel
theorem dX5_init_7 : decode cX5_init 7 = .ok (.newarray .int, 2) := by decide +kernel
theorem dX5_init_9 : decode cX5_init 9 = .ok (.putfield 9, 3) := by decide +kernel
theorem dX5_init_12 : decode cX5_init 12 = .ok (.aload_n 0, 1) := by decide +kernel
theorem dX5_init_13 : decode cX5_init 13 = .ok (.iconst (-1), 1) := by decide +kernel
theorem dX5_init_14 : decode cX5_init 14 = .ok (.putfield 15, 3) := by decide +kernel
theorem dX5_init_17 : decode cX5_init 17 = .ok (.aload_n 0, 1) := by decide +kernel
theorem dX5_init_18 : decode cX5_init 18 = .ok (.iconst 0, 1) := by decide +kernel
theorem dX5_init_19 : decode cX5_init 19 = .ok (.putfield 19, 3) := by decide +kernel
theorem dX5_init_22 : decode cX5_init 22 = .ok (.return_, 1) := by decide +kernel
theorem dX5_isLost_0 : decode cX5_isLost 0 = .ok (.aload_n 0, 1) := by decide +kernel
theorem dX5_isLost_1 : decode cX5_isLost 1 = .ok (.getfield 15, 3) := by decide +kernel
theorem dX5_isLost_4 : decode cX5_isLost 4 = .ok (.iconst (-1), 1) := by decide +kernel
theorem dX5_isLost_5 : decode cX5_isLost 5 = .ok (.if_icmp .ne 7, 3) := by decide +kernel
theorem dX5_isLost_8 : decode cX5_isLost 8 = .ok (.iconst 1, 1) := by decide +kernel
theorem dX5_isLost_9 : decode cX5_isLost 9 = .ok (.goto 4, 3) := by decide +kernel
theorem dX5_isLost_12 : decode cX5_isLost 12 = .ok (.iconst 0, 1) := by decide +kernel
theorem dX5_isLost_13 : decode cX5_isLost 13 = .ok (.ireturn, 1) := by decide +kernel
theorem dX5_begin_0 : decode cX5_begin 0 = .ok (.aload_n 0, 1) := by decide +kernel
theorem dX5_begin_1 : decode cX5_begin 1 = .ok (.getfield 9, 3) := by decide +kernel
theorem dX5_begin_4 : decode cX5_begin 4 = .ok (.iconst 0, 1) := by decide +kernel
theorem dX5_begin_5 : decode cX5_begin 5 = .ok (.invokestatic 22, 3) := by decide +kernel
theorem dX5_begin_8 : decode cX5_begin 8 = .ok (.aload_n 0, 1) := by decide +kernel
theorem dX5_begin_9 : decode cX5_begin 9 = .ok (.iload_n 1, 1) := by decide +kernel
theorem dX5_begin_10 : decode cX5_begin 10 = .ok (.putfield 15, 3) := by decide +kernel
theorem dX5_begin_13 : decode cX5_begin 13 = .ok (.aload_n 0, 1) := by decide +kernel
theorem dX5_begin_14 : decode cX5_begin 14 = .ok (.iload_n 2, 1) := by decide +kernel
theorem dX5_begin_15 : decode cX5_begin 15 = .ok (.putfield 19, 3) := by decide +kernel
theorem dX5_begin_18 : decode cX5_begin 18 = .ok (.return_, 1) := by decide +kernel
theorem dX5_drop_0 : decode cX5_drop 0 = .ok (.aload_n 0, 1) := by decide +kernel
theorem dX5_drop_1 : decode cX5_drop 1 = .ok (.getfield 19, 3) := by decide +kernel
theorem dX5_drop_4 : decode cX5_drop 4 = .ok (.istore_n 1, 1) := by decide +kernel
theorem dX5_drop_5 : decode cX5_drop 5 = .ok (.aload_n 0, 1) := by decide +kernel
theorem dX5_drop_6 : decode cX5_drop 6 = .ok (.iconst (-1), 1) := by decide +kernel
theorem dX5_drop_7 : decode cX5_drop 7 = .ok (.putfield 15, 3) := by decide +kernel
theorem dX5_drop_10 : decode cX5_drop 10 = .ok (.aload_n 0, 1) := by decide +kernel
theorem dX5_drop_11 : decode cX5_drop 11 = .ok (.iconst 0, 1) := by decide +kernel
theorem dX5_drop_12 : decode cX5_drop 12 = .ok (.putfield 19, 3) := by decide +kernel
theorem dX5_drop_15 : decode cX5_drop 15 = .ok (.iload_n 1, 1) := by decide +kernel
theorem dX5_drop_16 : decode cX5_drop 16 = .ok (.ireturn, 1) := by decide +kernel
theorem dX5_hasItems_0 : decode cX5_hasItems 0 = .ok (.iload_n 1, 1) := by decide +kernel
theorem dX5_hasItems_1 : decode cX5_hasItems 1 = .ok (.ifCond .lt 29, 3) := by decide +kernel
theorem dX5_hasItems_4 : decode cX5_hasItems 4 = .ok (.iload_n 2, 1) := by decide +kernel
theorem dX5_hasItems_5 : decode cX5_hasItems 5 = .ok (.ifCond .lt 25, 3) := by decide +kernel
theorem dX5_hasItems_8 : decode cX5_hasItems 8 = .ok (.iload_n 2, 1) := by decide +kernel
theorem dX5_hasItems_9 : decode cX5_hasItems 9 = .ok (.aload_n 0, 1) := by decide +kernel
theorem dX5_hasItems_10 : decode cX5_hasItems 10 = .ok (.getfield 19, 3) := by decide +kernel
theorem dX5_hasItems_13 : decode cX5_hasItems 13 = .ok (.if_icmp .gt 17, 3) := by decide +kernel
theorem dX5_hasItems_16 : decode cX5_hasItems 16 = .ok (.iload_n 1, 1) := by decide +kernel
theorem dX5_hasItems_17 : decode cX5_hasItems 17 = .ok (.aload_n 0, 1) := by decide +kernel
theorem dX5_hasItems_18 : decode cX5_hasItems 18 = .ok (.getfield 19, 3) := by decide +kernel
theorem dX5_hasItems_21 : decode cX5_hasItems 21 = .ok (.iload_n 2, 1) := by decide +kernel
theorem dX5_hasItems_22 : decode cX5_hasItems 22 = .ok (.isub, 1) := by decide +kernel
theorem dX5_hasItems_23 : decode cX5_hasItems 23 = .ok (.if_icmp .gt 7, 3) := by decide +kernel
theorem dX5_hasItems_26 : decode cX5_hasItems 26 = .ok (.iconst 1, 1) := by decide +kernel
theorem dX5_hasItems_27 : decode cX5_hasItems 27 = .ok (.goto 4, 3) := by decide +kernel
theorem dX5_hasItems_30 : decode cX5_hasItems 30 = .ok (.iconst 0, 1) := by decide +kernel
theorem dX5_hasItems_31 : decode cX5_hasItems 31 = .ok (.ireturn, 1) := by decide +kernel
theorem dX5_keep_0 : decode cX5_keep 0 = .ok (.aload_n 0, 1) := by decide +kernel
theorem dX5_keep_1 : decode cX5_keep 1 = .ok (.getfield 15, 3) := by decide +kernel
theorem dX5_keep_4 : decode cX5_keep 4 = .ok (.ifCond .ne 14, 3) := by decide +kernel
theorem dX5_keep_7 : decode cX5_keep 7 = .ok (.aload_n 0, 1) := by decide +kernel
theorem dX5_keep_8 : decode cX5_keep 8 = .ok (.getfield 9, 3) := by decide +kernel
theorem dX5_keep_11 : decode cX5_keep 11 = .ok (.iload_n 1, 1) := by decide +kernel
theorem dX5_keep_12 : decode cX5_keep 12 = .ok (.iload_n 2, 1) := by decide +kernel
theorem dX5_keep_13 : decode cX5_keep 13 = .ok (.i2b, 1) := by decide +kernel
theorem dX5_keep_14 : decode cX5_keep 14 = .ok (.iastore, 1) := by decide +kernel
theorem dX5_keep_15 : decode cX5_keep 15 = .ok (.goto 29, 3) := by decide +kernel
theorem dX5_keep_18 : decode cX5_keep 18 = .ok (.aload_n 0, 1) := by decide +kernel
theorem dX5_keep_19 : decode cX5_keep 19 = .ok (.getfield 15, 3) := by decide +kernel
theorem dX5_keep_22 : decode cX5_keep 22 = .ok (.iconst 1, 1) := by decide +kernel
theorem dX5_keep_23 : decode cX5_keep 23 = .ok (.if_icmp .ne 14, 3) := by decide +kernel
theorem dX5_keep_26 : decode cX5_keep 26 = .ok (.aload_n 0, 1) := by decide +kernel
theorem dX5_keep_27 : decode cX5_keep 27 = .ok (.getfield 9, 3) := by decide +kernel
theorem dX5_keep_30 : decode cX5_keep 30 = .ok (.iload_n 1, 1) := by decide +kernel
theorem dX5_keep_31 : decode cX5_keep 31 = .ok (.iload_n 2, 1) := by decide +kernel
theorem dX5_keep_32 : decode cX5_keep 32 = .ok (.i2s, 1) := by decide +kernel
theorem dX5_keep_33 : decode cX5_keep 33 = .ok (.iastore, 1) := by decide +kernel
theorem dX5_keep_34 : decode cX5_keep 34 = .ok (.goto 10, 3) := by decide +kernel
theorem dX5_keep_37 : decode cX5_keep 37 = .ok (.aload_n 0, 1) := by decide +kernel
theorem dX5_keep_38 : decode cX5_keep 38 = .ok (.getfield 9, 3) := by decide +kernel
theorem dX5_keep_41 : decode cX5_keep 41 = .ok (.iload_n 1, 1) := by decide +kernel
theorem dX5_keep_42 : decode cX5_keep 42 = .ok (.iload_n 2, 1) := by decide +kernel
theorem dX5_keep_43 : decode cX5_keep 43 = .ok (.iastore, 1) := by decide +kernel
theorem dX5_keep_44 : decode cX5_keep 44 = .ok (.return_, 1) := by decide +kernel
theorem dX6_init_0 : decode cX6_init 0 = .ok (.aload_n 0, 1) := by decide +kernel
theorem dX6_init_1 : decode cX6_init 1 = .ok (.invokespecial 1, 3) := by decide +kernel
theorem dX6_init_4 : decode cX6_init 4 = .ok (.aload_n 0, 1) := by decide +kernel
theorem dX6_init_5 : decode cX6_init 5 = .ok (.iconst 4, 1) := by decide +kernel
theorem dX6_init_6 : decode cX6_init 6 = .ok (.anewarray 9, 3) := by decide +kernel
theorem dX6_init_9 : decode cX6_init 9 = .ok (.putfield 11, 3) := by decide +kernel
theorem dX6_init_12 : decode cX6_init 12 = .ok (.aload_n 0, 1) := by decide +kernel
theorem dX6_init_13 : decode cX6_init 13 = .ok (.iconst 4, 1) := by decide +kernel
theorem dX6_init_14 : decode cX6_init 14 = .ok (.anewarray 15, 3) := by decide +kernel
theorem dX6_init_17 : decode cX6_init 17 = .ok (.putfield 17, 3) := by decide +kernel
theorem dX6_init_20 : decode cX6_init 20 = .ok (.aload_n 0, 1) := by decide +kernel
theorem dX6_init_21 : decode cX6_init 21 = .ok (.bipush 24, 2) := by decide +kernel
theorem dX6_init_23 : decode cX6_init 23 = .ok (.newarray .int, 2) := by decide +kernel
theorem dX6_init_25 : decode cX6_init 25 = .ok (.putfield 21, 3) := by decide +kernel
theorem dX6_init_28 : decode cX6_init 28 = .ok (.aload_n 0, 1) := by decide +kernel
theorem dX6_init_29 : decode cX6_init 29 = .ok (.new 25, 3) := by decide +kernel
theorem dX6_init_32 : decode cX6_init 32 = .ok (.dup, 1) := by decide +kernel
theorem dX6_init_33 : decode cX6_init 33 = .ok (.invokespecial 27, 3) := by decide +kernel
theorem dX6_init_36 : decode cX6_init 36 = .ok (.putfield 28, 3) := by decide +kernel
theorem dX6_init_39 : decode cX6_init 39 = .ok (.aload_n 0, 1) := by decide +kernel
theorem dX6_init_40 : decode cX6_init 40 = .ok (.new 32, 3) := by decide +kernel
theorem dX6_init_43 : decode cX6_init 43 = .ok (.dup, 1) := by decide +kernel
theorem dX6_init_44 : decode cX6_init 44 = .ok (.invokespecial 34, 3) := by decide +kernel
theorem dX6_init_47 : decode cX6_init 47 = .ok (.putfield 35, 3) := by decide +kernel
theorem dX6_init_50 : decode cX6_init 50 = .ok (.aload_n 0, 1) := by decide +kernel
theorem dX6_init_51 : decode cX6_init 51 = .ok (.new 39, 3) := by decide +kernel
theorem dX6_init_54 : decode cX6_init 54 = .ok (.dup, 1) := by decide +kernel
theorem dX6_init_55 : decode cX6_init 55 = .ok (.invokespecial 41, 3) := by decide +kernel
theorem dX6_init_58 : decode cX6_init 58 = .ok (.putfield 42, 3) := by decide +kernel
theorem dX6_init_61 : decode cX6_init 61 = .ok (.aload_n 0, 1) := by decide +kernel
theorem dX6_init_62 : decode cX6_init 62 = .ok (.new 46, 3) := by decide +kernel
theorem dX6_init_65 : decode cX6_init 65 = .ok (.dup, 1) := by decide +kernel
theorem dX6_init_66 : decode cX6_init 66 = .ok (.invokespecial 48, 3) := by decide +kernel
theorem dX6_init_69 : decode cX6_init 69 = .ok (.putfield 49, 3) := by decide +kernel
theorem dX6_init_72 : decode cX6_init 72 = .ok (.aload_n 0, 1) := by decide +kernel
theorem dX6_init_73 : decode cX6_init 73 = .ok (.iconst 0, 1) := by decide +kernel
theorem dX6_init_74 : decode cX6_init 74 = .ok (.putfield 53, 3) := by decide +kernel
theorem dX6_init_77 : decode cX6_init 77 = .ok (.aload_n 0, 1) := by decide +kernel
theorem dX6_init_78 : decode cX6_init 78 = .ok (.iconst (-1), 1) := by decide +kernel
theorem dX6_init_79 : decode cX6_init 79 = .ok (.putfield 57, 3) := by decide +kernel
theorem dX6_init_82 : decode cX6_init 82 = .ok (.aload_n 0, 1) := by decide +kernel
theorem dX6_init_83 : decode cX6_init 83 = .ok (.bipush 12, 2) := by decide +kernel
theorem dX6_init_85 : decode cX6_init 85 = .ok (.putfield 60, 3) := by decide +kernel
theorem dX6_init_88 : decode cX6_init 88 = .ok (.aload_n 0, 1) := by decide +kernel
theorem dX6_init_89 : decode cX6_init 89 = .ok (.bipush 100, 2) := by decide +kernel
theorem dX6_init_91 : decode cX6_init 91 = .ok (.putfield 63, 3) := by decide +kernel
theorem dX6_init_94 : decode cX6_init 94 = .ok (.aload_n 0, 1) := by decide +kernel
theorem dX6_init_95 : decode cX6_init 95 = .ok (.iconst 0, 1) := by decide +kernel
theorem dX6_init_96 : decode cX6_init 96 = .ok (.putfield 66, 3) := by decide +kernel
theorem dX6_init_99 : decode cX6_init 99 = .ok (.iconst 0, 1) := by decide +kernel
theorem dX6_init_100 : decode cX6_init 100 = .ok (.istore_n 1, 1) := by decide +kernel
theorem dX6_init_101 : decode cX6_init 101 = .ok (.iload_n 1, 1) := by decide +kernel
theorem dX6_init_102 : decode cX6_init 102 = .ok (.iconst 4, 1) := by decide +kernel
theorem dX6_init_103 : decode cX6_init 103 = .ok (.if_icmp .ge 22, 3) := by decide +kernel
theorem dX6_init_106 : decode cX6_init 106 = .ok (.aload_n 0, 1) := by decide +kernel
theorem dX6_init_107 : decode cX6_init 107 = .ok (.getfield 11, 3) := by decide +kernel
theorem dX6_init_110 : decode cX6_init 110 = .ok (.iload_n 1, 1) := by decide +kernel
theorem dX6_init_111 : decode cX6_init 111 = .ok (.new 9, 3) := by decide +kernel
theorem dX6_init_114 : decode cX6_init 114 = .ok (.dup, 1) := by decide +kernel
theorem dX6_init_115 : decode cX6_init 115 = .ok (.invokespecial 69, 3) := by decide +kernel
theorem dX6_init_118 : decode cX6_init 118 = .ok (.aastore, 1) := by decide +kernel
theorem dX6_init_119 : decode cX6_init 119 = .ok (.iinc 1 1, 3) := by decide +kernel
theorem dX6_init_122 : decode cX6_init 122 = .ok (.goto (-21), 3) := by decide +kernel
theorem dX6_init_125 : decode cX6_init 125 = .ok (.iconst 0, 1) := by decide +kernel
theorem dX6_init_126 : decode cX6_init 126 = .ok (.istore_n 1, 1) := by decide +kernel
theorem dX6_init_127 : decode cX6_init 127 = .ok (.iload_n 1, 1) := by decide +kernel
theorem dX6_init_128 : decode cX6_init 128 = .ok (.iconst 4, 1) := by decide +kernel
theorem dX6_init_129 : decode cX6_init 129 = .ok (.if_icmp .ge 22, 3) := by decide +kernel
theorem dX6_init_132 : decode cX6_init 132 = .ok (.aload_n 0, 1) := by decide +kernel
theorem dX6_init_133 : decode cX6_init 133 = .ok (.getfield 17, 3) := by decide +kernel
theorem dX6_init_136 : decode cX6_init 136 = .ok (.iload_n 1, 1) := by decide +kernel
theorem dX6_init_137 : decode cX6_init 137 = .ok (.new 15, 3) := by decide +kernel
theorem dX6_init_140 : decode cX6_init 140 = .ok (.dup, 1) := by decide +kernel
theorem dX6_init_141 : decode cX6_init 141 = .ok (.invokespecial 70, 3) := by decide +kernel
theorem dX6_init_144 : decode cX6_init 144 = .ok (.aastore, 1) := by decide +kernel
theorem dX6_init_145 : decode cX6_init 145 = .ok (.iinc 1 1, 3) := by decide +kernel
theorem dX6_init_148 : decode cX6_init 148 = .ok (.goto (-21), 3) := by decide +kernel
theorem dX6_init_151 : decode cX6_init 151 = .ok (.return_, 1) := by decide +kernel
theorem dX6_type_0 : decode cX6_type 0 = .ok (.iload_n 1, 1) := by decide +kernel
theorem dX6_type_1 : decode cX6_type 1 = .ok (.invokestatic 71, 3) := by decide +kernel
theorem dX6_type_4 : decode cX6_type 4 = .ok (.ifCond .eq 14, 3) := by decide +kernel
theorem dX6_type_7 : decode cX6_type 7 = .ok (.iload_n 2, 1) := by decide +kernel
theorem dX6_type_8 : decode cX6_type 8 = .ok (.ifCond .lt 10, 3) := by decide +kernel
theorem dX6_type_11 : decode cX6_type 11 = .ok (.iload_n 2, 1) := by decide +kernel
theorem dX6_type_12 : decode cX6_type 12 = .ok (.sipush 255, 3) := by decide +kernel
theorem dX6_type_15 : decode cX6_type 15 = .ok (.if_icmp .le 6, 3) := by decide +kernel
theorem dX6_type_18 : decode cX6_type 18 = .ok (.bipush (-2), 2) := by decide +kernel
theorem dX6_type_20 : decode cX6_type 20 = .ok (.ireturn, 1) := by decide +kernel
theorem dX6_type_21 : decode cX6_type 21 = .ok (.aload_n 0, 1) := by decide +kernel
theorem dX6_type_22 : decode cX6_type 22 = .ok (.getfield 11, 3) := by decide +kernel
theorem dX6_type_25 : decode cX6_type 25 = .ok (.iload_n 1, 1) := by decide +kernel
theorem dX6_type_26 : decode cX6_type 26 = .ok (.aaload, 1) := by decide +kernel
theorem dX6_type_27 : decode cX6_type 27 = .ok (.astore_n 3, 1) := by decide +kernel
theorem dX6_type_28 : decode cX6_type 28 = .ok (.aload_n 3, 1) := by decide +kernel
theorem dX6_type_29 : decode cX6_type 29 = .ok (.iload_n 2, 1) := by decide +kernel
theorem dX6_type_30 : decode cX6_type 30 = .ok (.invokevirtual 75, 3) := by decide +kernel
theorem dX6_type_33 : decode cX6_type 33 = .ok (.ifCond .ne 6, 3) := by decide +kernel
theorem dX6_type_36 : decode cX6_type 36 = .ok (.bipush (-4), 2) := by decide +kernel
theorem dX6_type_38 : decode cX6_type 38 = .ok (.ireturn, 1) := by decide +kernel
theorem dX6_type_39 : decode cX6_type 39 = .ok (.aload_n 3, 1) := by decide +kernel
theorem dX6_type_40 : decode cX6_type 40 = .ok (.aload_n 0, 1) := by decide +kernel
theorem dX6_type_41 : decode cX6_type 41 = .ok (.getfield 60, 3) := by decide +kernel
theorem dX6_type_44 : decode cX6_type 44 = .ok (.invokevirtual 78, 3) := by decide +kernel
theorem dX6_type_47 : decode cX6_type 47 = .ok (.aload_n 3, 1) := by decide +kernel
theorem dX6_type_48 : decode cX6_type 48 = .ok (.getfield 82, 3) := by decide +kernel
theorem dX6_type_51 : decode cX6_type 51 = .ok (.ireturn, 1) := by decide +kernel
theorem dX6_wipe_0 : decode cX6_wipe 0 = .ok (.iload_n 1, 1) := by decide +kernel
theorem dX6_wipe_1 : decode cX6_wipe 1 = .ok (.invokestatic 71, 3) := by decide +kernel
theorem dX6_wipe_4 : decode cX6_wipe 4 = .ok (.ifCond .ne 6, 3) := by decide +kernel
theorem dX6_wipe_7 : decode cX6_wipe 7 = .ok (.bipush (-2), 2) := by decide +kernel
theorem dX6_wipe_9 : decode cX6_wipe 9 = .ok (.ireturn, 1) := by decide +kernel
theorem dX6_wipe_10 : decode cX6_wipe 10 = .ok (.aload_n 0, 1) := by decide +kernel
theorem dX6_wipe_11 : decode cX6_wipe 11 = .ok (.getfield 11, 3) := by decide +kernel
theorem dX6_wipe_14 : decode cX6_wipe 14 = .ok (.iload_n 1, 1) := by decide +kernel
theorem dX6_wipe_15 : decode cX6_wipe 15 = .ok (.aaload, 1) := by decide +kernel
theorem dX6_wipe_16 : decode cX6_wipe 16 = .ok (.astore_n 2, 1) := by decide +kernel
theorem dX6_wipe_17 : decode cX6_wipe 17 = .ok (.aload_n 2, 1) := by decide +kernel
theorem dX6_wipe_18 : decode cX6_wipe 18 = .ok (.getfield 82, 3) := by decide +kernel
theorem dX6_wipe_21 : decode cX6_wipe 21 = .ok (.istore_n 3, 1) := by decide +kernel
theorem dX6_wipe_22 : decode cX6_wipe 22 = .ok (.aload_n 2, 1) := by decide +kernel
theorem dX6_wipe_23 : decode cX6_wipe 23 = .ok (.invokevirtual 85, 3) := by decide +kernel
theorem dX6_wipe_26 : decode cX6_wipe 26 = .ok (.aload_n 2, 1) := by decide +kernel
theorem dX6_wipe_27 : decode cX6_wipe 27 = .ok (.aload_n 0, 1) := by decide +kernel
theorem dX6_wipe_28 : decode cX6_wipe 28 = .ok (.getfield 60, 3) := by decide +kernel
theorem dX6_wipe_31 : decode cX6_wipe 31 = .ok (.invokevirtual 78, 3) := by decide +kernel
theorem dX6_wipe_34 : decode cX6_wipe 34 = .ok (.iload_n 3, 1) := by decide +kernel
theorem dX6_wipe_35 : decode cX6_wipe 35 = .ok (.ireturn, 1) := by decide +kernel
theorem dX6_fault_0 : decode cX6_fault 0 = .ok (.iload_n 1, 1) := by decide +kernel
theorem dX6_fault_1 : decode cX6_fault 1 = .ok (.invokestatic 71, 3) := by decide +kernel
theorem dX6_fault_4 : decode cX6_fault 4 = .ok (.ifCond .eq 15, 3) := by decide +kernel
theorem dX6_fault_7 : decode cX6_fault 7 = .ok (.aload_n 0, 1) := by decide +kernel
theorem dX6_fault_8 : decode cX6_fault 8 = .ok (.getfield 11, 3) := by decide +kernel
theorem dX6_fault_11 : decode cX6_fault 11 = .ok (.iload_n 1, 1) := by decide +kernel
theorem dX6_fault_12 : decode cX6_fault 12 = .ok (.aaload, 1) := by decide +kernel
theorem dX6_fault_13 : decode cX6_fault 13 = .ok (.getfield 88, 3) := by decide +kernel
theorem dX6_fault_16 : decode cX6_fault 16 = .ok (.goto 5, 3) := by decide +kernel
theorem dX6_fault_19 : decode cX6_fault 19 = .ok (.bipush (-2), 2) := by decide +kernel
theorem dX6_fault_21 : decode cX6_fault 21 = .ok (.ireturn, 1) := by decide +kernel
theorem dX6_other_0 : decode cX6_other 0 = .ok (.iload_n 1, 1) := by decide +kernel
theorem dX6_other_1 : decode cX6_other 1 = .ok (.ifCond .lt 9, 3) := by decide +kernel
theorem dX6_other_4 : decode cX6_other 4 = .ok (.iload_n 1, 1) := by decide +kernel
theorem dX6_other_5 : decode cX6_other 5 = .ok (.bipush 24, 2) := by decide +kernel
theorem dX6_other_7 : decode cX6_other 7 = .ok (.if_icmp .le 6, 3) := by decide +kernel
theorem dX6_other_10 : decode cX6_other 10 = .ok (.bipush (-2), 2) := by decide +kernel
theorem dX6_other_12 : decode cX6_other 12 = .ok (.ireturn, 1) := by decide +kernel
theorem dX6_other_13 : decode cX6_other 13 = .ok (.aload_n 0, 1) := by decide +kernel
theorem dX6_other_14 : decode cX6_other 14 = .ok (.getfield 60, 3) := by decide +kernel
theorem dX6_other_17 : decode cX6_other 17 = .ok (.istore_n 2, 1) := by decide +kernel
theorem dX6_other_18 : decode cX6_other 18 = .ok (.aload_n 0, 1) := by decide +kernel
theorem dX6_other_19 : decode cX6_other 19 = .ok (.iload_n 1, 1) := by decide +kernel
theorem dX6_other_20 : decode cX6_other 20 = .ok (.putfield 60, 3) := by decide +kernel
theorem dX6_other_23 : decode cX6_other 23 = .ok (.iconst 0, 1) := by decide +kernel
theorem dX6_other_24 : decode cX6_other 24 = .ok (.istore_n 3, 1) := by decide +kernel
theorem dX6_other_25 : decode cX6_other 25 = .ok (.iload_n 3, 1) := by decide +kernel
theorem dX6_other_26 : decode cX6_other 26 = .ok (.iconst 4, 1) := by decide +kernel
theorem dX6_other_27 : decode cX6_other 27 = .ok (.if_icmp .ge 19, 3) := by decide +kernel
theorem dX6_other_30 : decode cX6_other 30 = .ok (.aload_n 0, 1) := by decide +kernel
theorem dX6_other_31 : decode cX6_other 31 = .ok (.getfield 11, 3) := by decide +kernel
theorem dX6_other_34 : decode cX6_other 34 = .ok (.iload_n 3, 1) := by decide +kernel
theorem dX6_other_35 : decode cX6_other 35 = .ok (.aaload, 1) := by decide +kernel
theorem dX6_other_36 : decode cX6_other 36 = .ok (.iload_n 1, 1) := by decide +kernel
theorem dX6_other_37 : decode cX6_other 37 = .ok (.invokevirtual 78, 3) := by decide +kernel
theorem dX6_other_40 : decode cX6_other 40 = .ok (.iinc 3 1, 3) := by decide +kernel
theorem dX6_other_43 : decode cX6_other 43 = .ok (.goto (-18), 3) := by decide +kernel
theorem dX6_other_46 : decode cX6_other 46 = .ok (.iload_n 2, 1) := by decide +kernel
theorem dX6_other_47 : decode cX6_other 47 = .ok (.ireturn, 1) := by decide +kernel
theorem dX6_saysYes_0 : decode cX6_saysYes 0 = .ok (.iload_n 1, 1) := by decide +kernel
theorem dX6_saysYes_1 : decode cX6_saysYes 1 = .ok (.invokestatic 71, 3) := by decide +kernel
theorem dX6_saysYes_4 : decode cX6_saysYes 4 = .ok (.ifCond .eq 17, 3) := by decide +kernel
theorem dX6_saysYes_7 : decode cX6_saysYes 7 = .ok (.iload_n 2, 1) := by decide +kernel
theorem dX6_saysYes_8 : decode cX6_saysYes 8 = .ok (.invokestatic 91, 3) := by decide +kernel
theorem dX6_saysYes_11 : decode cX6_saysYes 11 = .ok (.ifCond .eq 10, 3) := by decide +kernel
theorem dX6_saysYes_14 : decode cX6_saysYes 14 = .ok (.iload_n 3, 1) := by decide +kernel
theorem dX6_saysYes_15 : decode cX6_saysYes 15 = .ok (.invokestatic 91, 3) := by decide +kernel
theorem dX6_saysYes_18 : decode cX6_saysYes 18 = .ok (.ifCond .ne 9, 3) := by decide +kernel
theorem dX6_saysYes_21 : decode cX6_saysYes 21 = .ok (.bipush (-2), 2) := by decide +kernel
theorem dX6_saysYes_23 : decode cX6_saysYes 23 = .ok (.invokestatic 94, 3) := by decide +kernel
theorem dX6_saysYes_26 : decode cX6_saysYes 26 = .ok (.lreturn, 1) := by decide +kernel
theorem dX6_saysYes_27 : decode cX6_saysYes 27 = .ok (.aload_n 0, 1) := by decide +kernel
theorem dX6_saysYes_28 : decode cX6_saysYes 28 = .ok (.getfield 11, 3) := by decide +kernel
theorem dX6_saysYes_31 : decode cX6_saysYes 31 = .ok (.iload_n 1, 1) := by decide +kernel
theorem dX6_saysYes_32 : decode cX6_saysYes 32 = .ok (.aaload, 1) := by decide +kernel
theorem dX6_saysYes_33 : decode cX6_saysYes 33 = .ok (.astore 4, 2) := by decide +kernel
theorem dX6_saysYes_35 : decode cX6_saysYes 35 = .ok (.aload 4, 2) := by decide +kernel
theorem dX6_saysYes_37 : decode cX6_saysYes 37 = .ok (.invokevirtual 98, 3) := by decide +kernel
theorem dX6_saysYes_40 : decode cX6_saysYes 40 = .ok (.ifCond .eq 9, 3) := by decide +kernel
theorem dX6_saysYes_43 : decode cX6_saysYes 43 = .ok (.bipush (-3), 2) := by decide +kernel
theorem dX6_saysYes_45 : decode cX6_saysYes 45 = .ok (.invokestatic 94, 3) := by decide +kernel
theorem dX6_saysYes_48 : decode cX6_saysYes 48 = .ok (.lreturn, 1) := by decide +kernel
theorem dX6_saysYes_49 : decode cX6_saysYes 49 = .ok (.aload_n 0, 1) := by decide +kernel
theorem dX6_saysYes_50 : decode cX6_saysYes 50 = .ok (.getfield 49, 3) := by decide +kernel
theorem dX6_saysYes_53 : decode cX6_saysYes 53 = .ok (.iload_n 2, 1) := by decide +kernel
theorem dX6_saysYes_54 : decode cX6_saysYes 54 = .ok (.iconst 1, 1) := by decide +kernel
theorem dX6_saysYes_55 : decode cX6_saysYes 55 = .ok (.if_icmp .ne 12, 3) := by decide +kernel
theorem dX6_saysYes_58 : decode cX6_saysYes 58 = .ok (.aload 4, 2) := by decide +kernel
theorem dX6_saysYes_60 : decode cX6_saysYes 60 = .ok (.getfield 102, 3) := by decide +kernel
theorem dX6_saysYes_63 : decode cX6_saysYes 63 = .ok (.i2l, 1) := by decide +kernel
theorem dX6_saysYes_64 : decode cX6_saysYes 64 = .ok (.goto 9, 3) := by decide +kernel
theorem dX6_saysYes_67 : decode cX6_saysYes 67 = .ok (.aload 4, 2) := by decide +kernel
theorem dX6_saysYes_69 : decode cX6_saysYes 69 = .ok (.getfield 105, 3) := by decide +kernel
theorem dX6_saysYes_72 : decode cX6_saysYes 72 = .ok (.i2l, 1) := by decide +kernel
theorem dX6_saysYes_73 : decode cX6_saysYes 73 = .ok (.aload 4, 2) := by decide +kernel
theorem dX6_saysYes_75 : decode cX6_saysYes 75 = .ok (.getfield 108, 3) := by decide +kernel
theorem dX6_saysYes_78 : decode cX6_saysYes 78 = .ok (.i2l, 1) := by decide +kernel
theorem dX6_saysYes_79 : decode cX6_saysYes 79 = .ok (.invokevirtual 111, 3) := by decide +kernel
theorem dX6_saysYes_82 : decode cX6_saysYes 82 = .ok (.aload_n 0, 1) := by decide +kernel
theorem dX6_saysYes_83 : decode cX6_saysYes 83 = .ok (.getfield 49, 3) := by decide +kernel
theorem dX6_saysYes_86 : decode cX6_saysYes 86 = .ok (.iload_n 3, 1) := by decide +kernel
theorem dX6_saysYes_87 : decode cX6_saysYes 87 = .ok (.invokevirtual 115, 3) := by decide +kernel
theorem dX6_saysYes_90 : decode cX6_saysYes 90 = .ok (.lreturn, 1) := by decide +kernel
theorem dX6_unit_0 : decode cX6_unit 0 = .ok (.iload_n 1, 1) := by decide +kernel
theorem dX6_unit_1 : decode cX6_unit 1 = .ok (.invokestatic 71, 3) := by decide +kernel
theorem dX6_unit_4 : decode cX6_unit 4 = .ok (.ifCond .ne 6, 3) := by decide +kernel
theorem dX6_unit_7 : decode cX6_unit 7 = .ok (.bipush (-2), 2) := by decide +kernel
theorem dX6_unit_9 : decode cX6_unit 9 = .ok (.ireturn, 1) := by decide +kernel
theorem dX6_unit_10 : decode cX6_unit 10 = .ok (.aload_n 0, 1) := by decide +kernel
theorem dX6_unit_11 : decode cX6_unit 11 = .ok (.getfield 11, 3) := by decide +kernel
theorem dX6_unit_14 : decode cX6_unit 14 = .ok (.iload_n 1, 1) := by decide +kernel
theorem dX6_unit_15 : decode cX6_unit 15 = .ok (.aaload, 1) := by decide +kernel
theorem dX6_unit_16 : decode cX6_unit 16 = .ok (.astore_n 2, 1) := by decide +kernel
theorem dX6_unit_17 : decode cX6_unit 17 = .ok (.aload_n 2, 1) := by decide +kernel
theorem dX6_unit_18 : decode cX6_unit 18 = .ok (.invokevirtual 98, 3) := by decide +kernel
theorem dX6_unit_21 : decode cX6_unit 21 = .ok (.ifCond .eq 8, 3) := by decide +kernel
theorem dX6_unit_24 : decode cX6_unit 24 = .ok (.bipush (-3), 2) := by decide +kernel
theorem dX6_unit_26 : decode cX6_unit 26 = .ok (.goto 7, 3) := by decide +kernel
theorem dX6_unit_29 : decode cX6_unit 29 = .ok (.aload_n 2, 1) := by decide +kernel
theorem dX6_unit_30 : decode cX6_unit 30 = .ok (.getfield 108, 3) := by decide +kernel
theorem dX6_unit_33 : decode cX6_unit 33 = .ok (.ireturn, 1) := by decide +kernel
theorem dX6_pass_0 : decode cX6_pass 0 = .ok (.iload_n 1, 1) := by decide +kernel
theorem dX6_pass_1 : decode cX6_pass 1 = .ok (.iconst 1, 1) := by decide +kernel
theorem dX6_pass_2 : decode cX6_pass 2 = .ok (.if_icmp .lt 21, 3) := by decide +kernel
theorem dX6_pass_5 : decode cX6_pass 5 = .ok (.iload_n 1, 1) := by decide +kernel
theorem dX6_pass_6 : decode cX6_pass 6 = .ok (.bipush 100, 2) := by decide +kernel
theorem dX6_pass_8 : decode cX6_pass 8 = .ok (.if_icmp .gt 15, 3) := by decide +kernel
theorem dX6_pass_11 : decode cX6_pass 11 = .ok (.aload_n 0, 1) := by decide +kernel
theorem dX6_pass_12 : decode cX6_pass 12 = .ok (.getfield 53, 3) := by decide +kernel
theorem dX6_pass_15 : decode cX6_pass 15 = .ok (.iload_n 1, 1) := by decide +kernel
theorem dX6_pass_16 : decode cX6_pass 16 = .ok (.iadd, 1) := by decide +kernel
theorem dX6_pass_17 : decode cX6_pass 17 = .ok (.sipush 399, 3) := by decide +kernel
theorem dX6_pass_20 : decode cX6_pass 20 = .ok (.if_icmp .le 6, 3) := by decide +kernel
theorem dX6_pass_23 : decode cX6_pass 23 = .ok (.bipush (-2), 2) := by decide +kernel
theorem dX6_pass_25 : decode cX6_pass 25 = .ok (.ireturn, 1) := by decide +kernel
theorem dX6_pass_26 : decode cX6_pass 26 = .ok (.aload_n 0, 1) := by decide +kernel
theorem dX6_pass_27 : decode cX6_pass 27 = .ok (.dup, 1) := by decide +kernel
theorem dX6_pass_28 : decode cX6_pass 28 = .ok (.getfield 53, 3) := by decide +kernel
theorem dX6_pass_31 : decode cX6_pass 31 = .ok (.iload_n 1, 1) := by decide +kernel
theorem dX6_pass_32 : decode cX6_pass 32 = .ok (.iadd, 1) := by decide +kernel
theorem dX6_pass_33 : decode cX6_pass 33 = .ok (.putfield 53, 3) := by decide +kernel
theorem dX6_pass_36 : decode cX6_pass 36 = .ok (.aload_n 0, 1) := by decide +kernel
theorem dX6_pass_37 : decode cX6_pass 37 = .ok (.getfield 53, 3) := by decide +kernel
theorem dX6_pass_40 : decode cX6_pass 40 = .ok (.ireturn, 1) := by decide +kernel
theorem dX6_group_0 : decode cX6_group 0 = .ok (.iload_n 1, 1) := by decide +kernel
theorem dX6_group_1 : decode cX6_group 1 = .ok (.invokestatic 118, 3) := by decide +kernel
theorem dX6_group_4 : decode cX6_group 4 = .ok (.ifCond .eq 10, 3) := by decide +kernel
theorem dX6_group_7 : decode cX6_group 7 = .ok (.iload_n 2, 1) := by decide +kernel
theorem dX6_group_8 : decode cX6_group 8 = .ok (.invokestatic 121, 3) := by decide +kernel
theorem dX6_group_11 : decode cX6_group 11 = .ok (.ifCond .ne 6, 3) := by decide +kernel
theorem dX6_group_14 : decode cX6_group 14 = .ok (.bipush (-2), 2) := by decide +kernel
theorem dX6_group_16 : decode cX6_group 16 = .ok (.ireturn, 1) := by decide +kernel
theorem dX6_group_17 : decode cX6_group 17 = .ok (.aload_n 0, 1) := by decide +kernel
theorem dX6_group_18 : decode cX6_group 18 = .ok (.getfield 21, 3) := by decide +kernel
theorem dX6_group_21 : decode cX6_group 21 = .ok (.iload_n 1, 1) := by decide +kernel
theorem dX6_group_22 : decode cX6_group 22 = .ok (.iaload, 1) := by decide +kernel
theorem dX6_group_23 : decode cX6_group 23 = .ok (.istore_n 3, 1) := by decide +kernel
theorem dX6_group_24 : decode cX6_group 24 = .ok (.aload_n 0, 1) := by decide +kernel
theorem dX6_group_25 : decode cX6_group 25 = .ok (.getfield 21, 3) := by decide +kernel
theorem dX6_group_28 : decode cX6_group 28 = .ok (.iload_n 1, 1) := by decide +kernel
theorem dX6_group_29 : decode cX6_group 29 = .ok (.iload_n 2, 1) := by decide +kernel
theorem dX6_group_30 : decode cX6_group 30 = .ok (.iastore, 1) := by decide +kernel
theorem dX6_group_31 : decode cX6_group 31 = .ok (.iload_n 3, 1) := by decide +kernel
theorem dX6_group_32 : decode cX6_group 32 = .ok (.ireturn, 1) := by decide +kernel
theorem dX6_answer_0 : decode cX6_answer 0 = .ok (.iload_n 1, 1) := by decide +kernel
theorem dX6_answer_1 : decode cX6_answer 1 = .ok (.invokestatic 118, 3) := by decide +kernel
theorem dX6_answer_4 : decode cX6_answer 4 = .ok (.ifCond .eq 17, 3) := by decide +kernel
theorem dX6_answer_7 : decode cX6_answer 7 = .ok (.iload_n 2, 1) := by decide +kernel
theorem dX6_answer_8 : decode cX6_answer 8 = .ok (.invokestatic 71, 3) := by decide +kernel
theorem dX6_answer_11 : decode cX6_answer 11 = .ok (.ifCond .eq 10, 3) := by decide +kernel
theorem dX6_answer_14 : decode cX6_answer 14 = .ok (.iload_n 3, 1) := by decide +kernel
theorem dX6_answer_15 : decode cX6_answer 15 = .ok (.invokestatic 91, 3) := by decide +kernel
theorem dX6_answer_18 : decode cX6_answer 18 = .ok (.ifCond .ne 6, 3) := by decide +kernel
theorem dX6_answer_21 : decode cX6_answer 21 = .ok (.bipush (-2), 2) := by decide +kernel
theorem dX6_answer_23 : decode cX6_answer 23 = .ok (.ireturn, 1) := by decide +kernel
theorem dX6_answer_24 : decode cX6_answer 24 = .ok (.aload_n 0, 1) := by decide +kernel
theorem dX6_answer_25 : decode cX6_answer 25 = .ok (.getfield 11, 3) := by decide +kernel
theorem dX6_answer_28 : decode cX6_answer 28 = .ok (.iload_n 2, 1) := by decide +kernel
theorem dX6_answer_29 : decode cX6_answer 29 = .ok (.aaload, 1) := by decide +kernel
theorem dX6_answer_30 : decode cX6_answer 30 = .ok (.invokevirtual 98, 3) := by decide +kernel
theorem dX6_answer_33 : decode cX6_answer 33 = .ok (.ifCond .eq 6, 3) := by decide +kernel
theorem dX6_answer_36 : decode cX6_answer 36 = .ok (.bipush (-3), 2) := by decide +kernel
theorem dX6_answer_38 : decode cX6_answer 38 = .ok (.ireturn, 1) := by decide +kernel
theorem dX6_answer_39 : decode cX6_answer 39 = .ok (.aload_n 0, 1) := by decide +kernel
theorem dX6_answer_40 : decode cX6_answer 40 = .ok (.getfield 28, 3) := by decide +kernel
theorem dX6_answer_43 : decode cX6_answer 43 = .ok (.iload_n 1, 1) := by decide +kernel
theorem dX6_answer_44 : decode cX6_answer 44 = .ok (.iload_n 2, 1) := by decide +kernel
theorem dX6_answer_45 : decode cX6_answer 45 = .ok (.iload_n 3, 1) := by decide +kernel
theorem dX6_answer_46 : decode cX6_answer 46 = .ok (.aload_n 0, 1) := by decide +kernel
theorem dX6_answer_47 : decode cX6_answer 47 = .ok (.getfield 53, 3) := by decide +kernel
theorem dX6_answer_50 : decode cX6_answer 50 = .ok (.invokevirtual 124, 3) := by decide +kernel
theorem dX6_answer_53 : decode cX6_answer 53 = .ok (.ireturn, 1) := by decide +kernel
theorem dX6_read_0 : decode cX6_read 0 = .ok (.iload_n 1, 1) := by decide +kernel
theorem dX6_read_1 : decode cX6_read 1 = .ok (.invokestatic 128, 3) := by decide +kernel
theorem dX6_read_4 : decode cX6_read 4 = .ok (.ifCond .eq 10, 3) := by decide +kernel
theorem dX6_read_7 : decode cX6_read 7 = .ok (.iload_n 2, 1) := by decide +kernel
theorem dX6_read_8 : decode cX6_read 8 = .ok (.invokestatic 71, 3) := by decide +kernel
theorem dX6_read_11 : decode cX6_read 11 = .ok (.ifCond .ne 6, 3) := by decide +kernel
theorem dX6_read_14 : decode cX6_read 14 = .ok (.bipush (-2), 2) := by decide +kernel
theorem dX6_read_16 : decode cX6_read 16 = .ok (.ireturn, 1) := by decide +kernel
theorem dX6_read_17 : decode cX6_read 17 = .ok (.aload_n 0, 1) := by decide +kernel
theorem dX6_read_18 : decode cX6_read 18 = .ok (.getfield 17, 3) := by decide +kernel
theorem dX6_read_21 : decode cX6_read 21 = .ok (.iload_n 1, 1) := by decide +kernel
theorem dX6_read_22 : decode cX6_read 22 = .ok (.aaload, 1) := by decide +kernel
theorem dX6_read_23 : decode cX6_read 23 = .ok (.astore_n 3, 1) := by decide +kernel
theorem dX6_read_24 : decode cX6_read 24 = .ok (.aload_n 3, 1) := by decide +kernel
theorem dX6_read_25 : decode cX6_read 25 = .ok (.invokevirtual 131, 3) := by decide +kernel
theorem dX6_read_28 : decode cX6_read 28 = .ok (.ifCond .eq 9, 3) := by decide +kernel
theorem dX6_read_31 : decode cX6_read 31 = .ok (.aload_n 0, 1) := by decide +kernel
theorem dX6_read_32 : decode cX6_read 32 = .ok (.iconst 1, 1) := by decide +kernel
theorem dX6_read_33 : decode cX6_read 33 = .ok (.invokevirtual 134, 3) := by decide +kernel
theorem dX6_read_36 : decode cX6_read 36 = .ok (.ireturn, 1) := by decide +kernel
theorem dX6_read_37 : decode cX6_read 37 = .ok (.aload_n 0, 1) := by decide +kernel
theorem dX6_read_38 : decode cX6_read 38 = .ok (.getfield 11, 3) := by decide +kernel
theorem dX6_read_41 : decode cX6_read 41 = .ok (.iload_n 2, 1) := by decide +kernel
theorem dX6_read_42 : decode cX6_read 42 = .ok (.aaload, 1) := by decide +kernel
theorem dX6_read_43 : decode cX6_read 43 = .ok (.invokevirtual 98, 3) := by decide +kernel
theorem dX6_read_46 : decode cX6_read 46 = .ok (.ifCond .eq 6, 3) := by decide +kernel
theorem dX6_read_49 : decode cX6_read 49 = .ok (.bipush (-3), 2) := by decide +kernel
theorem dX6_read_51 : decode cX6_read 51 = .ok (.ireturn, 1) := by decide +kernel
theorem dX6_read_52 : decode cX6_read 52 = .ok (.aload_n 3, 1) := by decide +kernel
theorem dX6_read_53 : decode cX6_read 53 = .ok (.getfield 138, 3) := by decide +kernel
theorem dX6_read_56 : decode cX6_read 56 = .ok (.iconst 2, 1) := by decide +kernel
theorem dX6_read_57 : decode cX6_read 57 = .ok (.idiv, 1) := by decide +kernel
theorem dX6_read_58 : decode cX6_read 58 = .ok (.istore 4, 2) := by decide +kernel
theorem dX6_read_60 : decode cX6_read 60 = .ok (.iconst 0, 1) := by decide +kernel
theorem dX6_read_61 : decode cX6_read 61 = .ok (.istore 5, 2) := by decide +kernel
theorem dX6_read_63 : decode cX6_read 63 = .ok (.iload 5, 2) := by decide +kernel
theorem dX6_read_65 : decode cX6_read 65 = .ok (.iload 4, 2) := by decide +kernel
theorem dX6_read_67 : decode cX6_read 67 = .ok (.if_icmp .ge 73, 3) := by decide +kernel
theorem dX6_read_70 : decode cX6_read 70 = .ok (.aload_n 3, 1) := by decide +kernel
theorem dX6_read_71 : decode cX6_read 71 = .ok (.getfield 139, 3) := by decide +kernel
theorem dX6_read_74 : decode cX6_read 74 = .ok (.iconst 2, 1) := by decide +kernel
theorem dX6_read_75 : decode cX6_read 75 = .ok (.iload 5, 2) := by decide +kernel
theorem dX6_read_77 : decode cX6_read 77 = .ok (.imul, 1) := by decide +kernel
theorem dX6_read_78 : decode cX6_read 78 = .ok (.iaload, 1) := by decide +kernel
theorem dX6_read_79 : decode cX6_read 79 = .ok (.istore 6, 2) := by decide +kernel
theorem dX6_read_81 : decode cX6_read 81 = .ok (.aload_n 3, 1) := by decide +kernel
theorem dX6_read_82 : decode cX6_read 82 = .ok (.getfield 139, 3) := by decide +kernel
theorem dX6_read_85 : decode cX6_read 85 = .ok (.iconst 2, 1) := by decide +kernel
theorem dX6_read_86 : decode cX6_read 86 = .ok (.iload 5, 2) := by decide +kernel
theorem dX6_read_88 : decode cX6_read 88 = .ok (.imul, 1) := by decide +kernel
theorem dX6_read_89 : decode cX6_read 89 = .ok (.iconst 1, 1) := by decide +kernel
theorem dX6_read_90 : decode cX6_read 90 = .ok (.iadd, 1) := by decide +kernel
theorem dX6_read_91 : decode cX6_read 91 = .ok (.iaload, 1) := by decide +kernel
theorem dX6_read_92 : decode cX6_read 92 = .ok (.istore 7, 2) := by decide +kernel
theorem dX6_read_94 : decode cX6_read 94 = .ok (.iload 6, 2) := by decide +kernel
theorem dX6_read_96 : decode cX6_read 96 = .ok (.invokestatic 118, 3) := by decide +kernel
theorem dX6_read_99 : decode cX6_read 99 = .ok (.ifCond .eq 32, 3) := by decide +kernel
theorem dX6_read_102 : decode cX6_read 102 = .ok (.iload 7, 2) := by decide +kernel
theorem dX6_read_104 : decode cX6_read 104 = .ok (.invokestatic 91, 3) := by decide +kernel
theorem dX6_read_107 : decode cX6_read 107 = .ok (.ifCond .eq 24, 3) := by decide +kernel
theorem dX6_read_110 : decode cX6_read 110 = .ok (.aload_n 0, 1) := by decide +kernel
theorem dX6_read_111 : decode cX6_read 111 = .ok (.getfield 28, 3) := by decide +kernel
theorem dX6_read_114 : decode cX6_read 114 = .ok (.iload 6, 2) := by decide +kernel
theorem dX6_read_116 : decode cX6_read 116 = .ok (.iload_n 2, 1) := by decide +kernel
theorem dX6_read_117 : decode cX6_read 117 = .ok (.iload 7, 2) := by decide +kernel
theorem dX6_read_119 : decode cX6_read 119 = .ok (.aload_n 0, 1) := by decide +kernel
theorem dX6_read_120 : decode cX6_read 120 = .ok (.getfield 53, 3) := by decide +kernel
theorem dX6_read_123 : decode cX6_read 123 = .ok (.invokevirtual 124, 3) := by decide +kernel
theorem dX6_read_126 : decode cX6_read 126 = .ok (.bipush (-4), 2) := by decide +kernel
theorem dX6_read_128 : decode cX6_read 128 = .ok (.if_icmp .ne 6, 3) := by decide +kernel
theorem dX6_read_131 : decode cX6_read 131 = .ok (.iload 5, 2) := by decide +kernel
theorem dX6_read_133 : decode cX6_read 133 = .ok (.ireturn, 1) := by decide +kernel
theorem dX6_read_134 : decode cX6_read 134 = .ok (.iinc 5 1, 3) := by decide +kernel
theorem dX6_read_137 : decode cX6_read 137 = .ok (.goto (-74), 3) := by decide +kernel
theorem dX6_read_140 : decode cX6_read 140 = .ok (.iload 4, 2) := by decide +kernel
theorem dX6_read_142 : decode cX6_read 142 = .ok (.ireturn, 1) := by decide +kernel
theorem dX6_takeBack_0 : decode cX6_takeBack 0 = .ok (.aload_n 0, 1) := by decide +kernel
theorem dX6_takeBack_1 : decode cX6_takeBack 1 = .ok (.getfield 28, 3) := by decide +kernel
theorem dX6_takeBack_4 : decode cX6_takeBack 4 = .ok (.iload_n 1, 1) := by decide +kernel
theorem dX6_takeBack_5 : decode cX6_takeBack 5 = .ok (.invokevirtual 142, 3) := by decide +kernel
theorem dX6_takeBack_8 : decode cX6_takeBack 8 = .ok (.ifCond .ne 6, 3) := by decide +kernel
theorem dX6_takeBack_11 : decode cX6_takeBack 11 = .ok (.bipush (-2), 2) := by decide +kernel
theorem dX6_takeBack_13 : decode cX6_takeBack 13 = .ok (.ireturn, 1) := by decide +kernel
theorem dX6_takeBack_14 : decode cX6_takeBack 14 = .ok (.aload_n 0, 1) := by decide +kernel
theorem dX6_takeBack_15 : decode cX6_takeBack 15 = .ok (.getfield 28, 3) := by decide +kernel
theorem dX6_takeBack_18 : decode cX6_takeBack 18 = .ok (.getfield 145, 3) := by decide +kernel
theorem dX6_takeBack_21 : decode cX6_takeBack 21 = .ok (.iload_n 1, 1) := by decide +kernel
theorem dX6_takeBack_22 : decode cX6_takeBack 22 = .ok (.iaload, 1) := by decide +kernel
theorem dX6_takeBack_23 : decode cX6_takeBack 23 = .ok (.iconst (-1), 1) := by decide +kernel
theorem dX6_takeBack_24 : decode cX6_takeBack 24 = .ok (.if_icmp .eq 6, 3) := by decide +kernel
theorem dX6_takeBack_27 : decode cX6_takeBack 27 = .ok (.bipush (-3), 2) := by decide +kernel
theorem dX6_takeBack_29 : decode cX6_takeBack 29 = .ok (.ireturn, 1) := by decide +kernel
theorem dX6_takeBack_30 : decode cX6_takeBack 30 = .ok (.aload_n 0, 1) := by decide +kernel
theorem dX6_takeBack_31 : decode cX6_takeBack 31 = .ok (.getfield 28, 3) := by decide +kernel
theorem dX6_takeBack_34 : decode cX6_takeBack 34 = .ok (.getfield 145, 3) := by decide +kernel
theorem dX6_takeBack_37 : decode cX6_takeBack 37 = .ok (.iload_n 1, 1) := by decide +kernel
theorem dX6_takeBack_38 : decode cX6_takeBack 38 = .ok (.aload_n 0, 1) := by decide +kernel
theorem dX6_takeBack_39 : decode cX6_takeBack 39 = .ok (.getfield 53, 3) := by decide +kernel
theorem dX6_takeBack_42 : decode cX6_takeBack 42 = .ok (.iastore, 1) := by decide +kernel
theorem dX6_takeBack_43 : decode cX6_takeBack 43 = .ok (.iconst 1, 1) := by decide +kernel
theorem dX6_takeBack_44 : decode cX6_takeBack 44 = .ok (.ireturn, 1) := by decide +kernel
theorem dX6_about_0 : decode cX6_about 0 = .ok (.aload_n 0, 1) := by decide +kernel
theorem dX6_about_1 : decode cX6_about 1 = .ok (.getfield 28, 3) := by decide +kernel
theorem dX6_about_4 : decode cX6_about 4 = .ok (.iload_n 1, 1) := by decide +kernel
theorem dX6_about_5 : decode cX6_about 5 = .ok (.invokevirtual 142, 3) := by decide +kernel
theorem dX6_about_8 : decode cX6_about 8 = .ok (.ifCond .ne 6, 3) := by decide +kernel
theorem dX6_about_11 : decode cX6_about 11 = .ok (.bipush (-2), 2) := by decide +kernel
theorem dX6_about_13 : decode cX6_about 13 = .ok (.ireturn, 1) := by decide +kernel
theorem dX6_about_14 : decode cX6_about 14 = .ok (.iload_n 2, 1) := by decide +kernel
theorem dX6_about_15 : decode cX6_about 15 = .ok (.tableswitch 108 0 5 #[37, 47, 57, 67, 77, 87], 37) := by decide +kernel
theorem dX6_about_52 : decode cX6_about 52 = .ok (.aload_n 0, 1) := by decide +kernel
theorem dX6_about_53 : decode cX6_about 53 = .ok (.getfield 28, 3) := by decide +kernel
theorem dX6_about_56 : decode cX6_about 56 = .ok (.getfield 148, 3) := by decide +kernel
theorem dX6_about_59 : decode cX6_about 59 = .ok (.iload_n 1, 1) := by decide +kernel
theorem dX6_about_60 : decode cX6_about 60 = .ok (.iaload, 1) := by decide +kernel
theorem dX6_about_61 : decode cX6_about 61 = .ok (.ireturn, 1) := by decide +kernel
theorem dX6_about_62 : decode cX6_about 62 = .ok (.aload_n 0, 1) := by decide +kernel
theorem dX6_about_63 : decode cX6_about 63 = .ok (.getfield 28, 3) := by decide +kernel
theorem dX6_about_66 : decode cX6_about 66 = .ok (.getfield 151, 3) := by decide +kernel
theorem dX6_about_69 : decode cX6_about 69 = .ok (.iload_n 1, 1) := by decide +kernel
theorem dX6_about_70 : decode cX6_about 70 = .ok (.iaload, 1) := by decide +kernel
theorem dX6_about_71 : decode cX6_about 71 = .ok (.ireturn, 1) := by decide +kernel
theorem dX6_about_72 : decode cX6_about 72 = .ok (.aload_n 0, 1) := by decide +kernel
theorem dX6_about_73 : decode cX6_about 73 = .ok (.getfield 28, 3) := by decide +kernel
theorem dX6_about_76 : decode cX6_about 76 = .ok (.getfield 154, 3) := by decide +kernel
theorem dX6_about_79 : decode cX6_about 79 = .ok (.iload_n 1, 1) := by decide +kernel
theorem dX6_about_80 : decode cX6_about 80 = .ok (.iaload, 1) := by decide +kernel
theorem dX6_about_81 : decode cX6_about 81 = .ok (.ireturn, 1) := by decide +kernel
theorem dX6_about_82 : decode cX6_about 82 = .ok (.aload_n 0, 1) := by decide +kernel
theorem dX6_about_83 : decode cX6_about 83 = .ok (.getfield 28, 3) := by decide +kernel
theorem dX6_about_86 : decode cX6_about 86 = .ok (.getfield 157, 3) := by decide +kernel
theorem dX6_about_89 : decode cX6_about 89 = .ok (.iload_n 1, 1) := by decide +kernel
theorem dX6_about_90 : decode cX6_about 90 = .ok (.iaload, 1) := by decide +kernel
theorem dX6_about_91 : decode cX6_about 91 = .ok (.ireturn, 1) := by decide +kernel
theorem dX6_about_92 : decode cX6_about 92 = .ok (.aload_n 0, 1) := by decide +kernel
theorem dX6_about_93 : decode cX6_about 93 = .ok (.getfield 28, 3) := by decide +kernel
theorem dX6_about_96 : decode cX6_about 96 = .ok (.getfield 145, 3) := by decide +kernel
theorem dX6_about_99 : decode cX6_about 99 = .ok (.iload_n 1, 1) := by decide +kernel
theorem dX6_about_100 : decode cX6_about 100 = .ok (.iaload, 1) := by decide +kernel
theorem dX6_about_101 : decode cX6_about 101 = .ok (.ireturn, 1) := by decide +kernel
theorem dX6_about_102 : decode cX6_about 102 = .ok (.aload_n 0, 1) := by decide +kernel
theorem dX6_about_103 : decode cX6_about 103 = .ok (.getfield 28, 3) := by decide +kernel
theorem dX6_about_106 : decode cX6_about 106 = .ok (.iload_n 1, 1) := by decide +kernel
theorem dX6_about_107 : decode cX6_about 107 = .ok (.aload_n 0, 1) := by decide +kernel
theorem dX6_about_108 : decode cX6_about 108 = .ok (.invokevirtual 160, 3) := by decide +kernel
theorem dX6_about_111 : decode cX6_about 111 = .ok (.invokevirtual 164, 3) := by decide +kernel
theorem dX6_about_114 : decode cX6_about 114 = .ok (.ifCond .eq 7, 3) := by decide +kernel
theorem dX6_about_117 : decode cX6_about 117 = .ok (.iconst 1, 1) := by decide +kernel
theorem dX6_about_118 : decode cX6_about 118 = .ok (.goto 4, 3) := by decide +kernel
theorem dX6_about_121 : decode cX6_about 121 = .ok (.iconst 0, 1) := by decide +kernel
theorem dX6_about_122 : decode cX6_about 122 = .ok (.ireturn, 1) := by decide +kernel
theorem dX6_about_123 : decode cX6_about 123 = .ok (.bipush (-2), 2) := by decide +kernel
theorem dX6_about_125 : decode cX6_about 125 = .ok (.ireturn, 1) := by decide +kernel
theorem dX6_asOf_0 : decode cX6_asOf 0 = .ok (.iload_n 1, 1) := by decide +kernel
theorem dX6_asOf_1 : decode cX6_asOf 1 = .ok (.iconst (-1), 1) := by decide +kernel
theorem dX6_asOf_2 : decode cX6_asOf 2 = .ok (.if_icmp .eq 18, 3) := by decide +kernel
theorem dX6_asOf_5 : decode cX6_asOf 5 = .ok (.iload_n 1, 1) := by decide +kernel
theorem dX6_asOf_6 : decode cX6_asOf 6 = .ok (.ifCond .lt 11, 3) := by decide +kernel
theorem dX6_asOf_9 : decode cX6_asOf 9 = .ok (.iload_n 1, 1) := by decide +kernel
theorem dX6_asOf_10 : decode cX6_asOf 10 = .ok (.aload_n 0, 1) := by decide +kernel
theorem dX6_asOf_11 : decode cX6_asOf 11 = .ok (.getfield 53, 3) := by decide +kernel
theorem dX6_asOf_14 : decode cX6_asOf 14 = .ok (.if_icmp .le 6, 3) := by decide +kernel
theorem dX6_asOf_17 : decode cX6_asOf 17 = .ok (.bipush (-2), 2) := by decide +kernel
theorem dX6_asOf_19 : decode cX6_asOf 19 = .ok (.ireturn, 1) := by decide +kernel
theorem dX6_asOf_20 : decode cX6_asOf 20 = .ok (.aload_n 0, 1) := by decide +kernel
theorem dX6_asOf_21 : decode cX6_asOf 21 = .ok (.getfield 57, 3) := by decide +kernel
theorem dX6_asOf_24 : decode cX6_asOf 24 = .ok (.istore_n 2, 1) := by decide +kernel
theorem dX6_asOf_25 : decode cX6_asOf 25 = .ok (.aload_n 0, 1) := by decide +kernel
theorem dX6_asOf_26 : decode cX6_asOf 26 = .ok (.iload_n 1, 1) := by decide +kernel
theorem dX6_asOf_27 : decode cX6_asOf 27 = .ok (.putfield 57, 3) := by decide +kernel
theorem dX6_asOf_30 : decode cX6_asOf 30 = .ok (.iload_n 2, 1) := by decide +kernel
theorem dX6_asOf_31 : decode cX6_asOf 31 = .ok (.ireturn, 1) := by decide +kernel
theorem dX6_poll_0 : decode cX6_poll 0 = .ok (.iload_n 1, 1) := by decide +kernel
theorem dX6_poll_1 : decode cX6_poll 1 = .ok (.invokestatic 121, 3) := by decide +kernel
theorem dX6_poll_4 : decode cX6_poll 4 = .ok (.ifCond .eq 17, 3) := by decide +kernel
theorem dX6_poll_7 : decode cX6_poll 7 = .ok (.iload_n 2, 1) := by decide +kernel
theorem dX6_poll_8 : decode cX6_poll 8 = .ok (.invokestatic 71, 3) := by decide +kernel
theorem dX6_poll_11 : decode cX6_poll 11 = .ok (.ifCond .eq 10, 3) := by decide +kernel
theorem dX6_poll_14 : decode cX6_poll 14 = .ok (.iload_n 3, 1) := by decide +kernel
theorem dX6_poll_15 : decode cX6_poll 15 = .ok (.invokestatic 91, 3) := by decide +kernel
theorem dX6_poll_18 : decode cX6_poll 18 = .ok (.ifCond .ne 6, 3) := by decide +kernel
theorem dX6_poll_21 : decode cX6_poll 21 = .ok (.bipush (-2), 2) := by decide +kernel
theorem dX6_poll_23 : decode cX6_poll 23 = .ok (.ireturn, 1) := by decide +kernel
theorem dX6_poll_24 : decode cX6_poll 24 = .ok (.aload_n 0, 1) := by decide +kernel
theorem dX6_poll_25 : decode cX6_poll 25 = .ok (.iload_n 1, 1) := by decide +kernel
theorem dX6_poll_26 : decode cX6_poll 26 = .ok (.iload_n 2, 1) := by decide +kernel
theorem dX6_poll_27 : decode cX6_poll 27 = .ok (.invokevirtual 168, 3) := by decide +kernel
theorem dX6_poll_30 : decode cX6_poll 30 = .ok (.iload_n 3, 1) := by decide +kernel
theorem dX6_poll_31 : decode cX6_poll 31 = .ok (.ifCond .ne 13, 3) := by decide +kernel
theorem dX6_poll_34 : decode cX6_poll 34 = .ok (.aload_n 0, 1) := by decide +kernel
theorem dX6_poll_35 : decode cX6_poll 35 = .ok (.getfield 35, 3) := by decide +kernel
theorem dX6_poll_38 : decode cX6_poll 38 = .ok (.getfield 172, 3) := by decide +kernel
theorem dX6_poll_41 : decode cX6_poll 41 = .ok (.goto 10, 3) := by decide +kernel
theorem dX6_poll_44 : decode cX6_poll 44 = .ok (.aload_n 0, 1) := by decide +kernel
theorem dX6_poll_45 : decode cX6_poll 45 = .ok (.getfield 35, 3) := by decide +kernel
theorem dX6_poll_48 : decode cX6_poll 48 = .ok (.getfield 174, 3) := by decide +kernel
theorem dX6_poll_51 : decode cX6_poll 51 = .ok (.ireturn, 1) := by decide +kernel
theorem dX6_share_0 : decode cX6_share 0 = .ok (.aload_n 0, 1) := by decide +kernel
theorem dX6_share_1 : decode cX6_share 1 = .ok (.iload_n 1, 1) := by decide +kernel
theorem dX6_share_2 : decode cX6_share 2 = .ok (.iload_n 2, 1) := by decide +kernel
theorem dX6_share_3 : decode cX6_share 3 = .ok (.iload_n 3, 1) := by decide +kernel
theorem dX6_share_4 : decode cX6_share 4 = .ok (.iconst 1, 1) := by decide +kernel
theorem dX6_share_5 : decode cX6_share 5 = .ok (.invokevirtual 177, 3) := by decide +kernel
theorem dX6_share_8 : decode cX6_share 8 = .ok (.istore 4, 2) := by decide +kernel
theorem dX6_share_10 : decode cX6_share 10 = .ok (.iload 4, 2) := by decide +kernel
theorem dX6_share_12 : decode cX6_share 12 = .ok (.ifCond .eq 9, 3) := by decide +kernel
theorem dX6_share_15 : decode cX6_share 15 = .ok (.iload 4, 2) := by decide +kernel
theorem dX6_share_17 : decode cX6_share 17 = .ok (.invokestatic 94, 3) := by decide +kernel
theorem dX6_share_20 : decode cX6_share 20 = .ok (.lreturn, 1) := by decide +kernel
theorem dX6_share_21 : decode cX6_share 21 = .ok (.aload_n 0, 1) := by decide +kernel
theorem dX6_share_22 : decode cX6_share 22 = .ok (.getfield 11, 3) := by decide +kernel
theorem dX6_share_25 : decode cX6_share 25 = .ok (.iload_n 2, 1) := by decide +kernel
theorem dX6_share_26 : decode cX6_share 26 = .ok (.aaload, 1) := by decide +kernel
theorem dX6_share_27 : decode cX6_share 27 = .ok (.astore 5, 2) := by decide +kernel
theorem dX6_share_29 : decode cX6_share 29 = .ok (.aload_n 0, 1) := by decide +kernel
theorem dX6_share_30 : decode cX6_share 30 = .ok (.getfield 35, 3) := by decide +kernel
theorem dX6_share_33 : decode cX6_share 33 = .ok (.getfield 172, 3) := by decide +kernel
theorem dX6_share_36 : decode cX6_share 36 = .ok (.i2l, 1) := by decide +kernel
theorem dX6_share_37 : decode cX6_share 37 = .ok (.lstore 6, 2) := by decide +kernel
theorem dX6_share_39 : decode cX6_share 39 = .ok (.aload_n 0, 1) := by decide +kernel
theorem dX6_share_40 : decode cX6_share 40 = .ok (.getfield 49, 3) := by decide +kernel
theorem dX6_share_43 : decode cX6_share 43 = .ok (.aload_n 0, 1) := by decide +kernel
theorem dX6_share_44 : decode cX6_share 44 = .ok (.getfield 35, 3) := by decide +kernel
theorem dX6_share_47 : decode cX6_share 47 = .ok (.getfield 174, 3) := by decide +kernel
theorem dX6_share_50 : decode cX6_share 50 = .ok (.i2l, 1) := by decide +kernel
theorem dX6_share_51 : decode cX6_share 51 = .ok (.aload 5, 2) := by decide +kernel
theorem dX6_share_53 : decode cX6_share 53 = .ok (.getfield 108, 3) := by decide +kernel
theorem dX6_share_56 : decode cX6_share 56 = .ok (.i2l, 1) := by decide +kernel
theorem dX6_share_57 : decode cX6_share 57 = .ok (.lmul, 1) := by decide +kernel
theorem dX6_share_58 : decode cX6_share 58 = .ok (.aload 5, 2) := by decide +kernel
theorem dX6_share_60 : decode cX6_share 60 = .ok (.getfield 105, 3) := by decide +kernel
theorem dX6_share_63 : decode cX6_share 63 = .ok (.i2l, 1) := by decide +kernel
theorem dX6_share_64 : decode cX6_share 64 = .ok (.lload 6, 2) := by decide +kernel
theorem dX6_share_66 : decode cX6_share 66 = .ok (.lmul, 1) := by decide +kernel
theorem dX6_share_67 : decode cX6_share 67 = .ok (.lsub, 1) := by decide +kernel
theorem dX6_share_68 : decode cX6_share 68 = .ok (.lload 6, 2) := by decide +kernel
theorem dX6_share_70 : decode cX6_share 70 = .ok (.aload 5, 2) := by decide +kernel
theorem dX6_share_72 : decode cX6_share 72 = .ok (.invokevirtual 180, 3) := by decide +kernel
theorem dX6_share_75 : decode cX6_share 75 = .ok (.lmul, 1) := by decide +kernel
theorem dX6_share_76 : decode cX6_share 76 = .ok (.invokevirtual 111, 3) := by decide +kernel
theorem dX6_share_79 : decode cX6_share 79 = .ok (.aload_n 0, 1) := by decide +kernel
theorem dX6_share_80 : decode cX6_share 80 = .ok (.getfield 49, 3) := by decide +kernel
theorem dX6_share_83 : decode cX6_share 83 = .ok (.iload_n 3, 1) := by decide +kernel
theorem dX6_share_84 : decode cX6_share 84 = .ok (.invokevirtual 115, 3) := by decide +kernel
theorem dX6_share_87 : decode cX6_share 87 = .ok (.lreturn, 1) := by decide +kernel
theorem dX6_scatter_0 : decode cX6_scatter 0 = .ok (.aload_n 0, 1) := by decide +kernel
theorem dX6_scatter_1 : decode cX6_scatter 1 = .ok (.iload_n 1, 1) := by decide +kernel
theorem dX6_scatter_2 : decode cX6_scatter 2 = .ok (.iload_n 2, 1) := by decide +kernel
theorem dX6_scatter_3 : decode cX6_scatter 3 = .ok (.iload_n 3, 1) := by decide +kernel
theorem dX6_scatter_4 : decode cX6_scatter 4 = .ok (.iconst 2, 1) := by decide +kernel
theorem dX6_scatter_5 : decode cX6_scatter 5 = .ok (.invokevirtual 177, 3) := by decide +kernel
theorem dX6_scatter_8 : decode cX6_scatter 8 = .ok (.istore 4, 2) := by decide +kernel
theorem dX6_scatter_10 : decode cX6_scatter 10 = .ok (.iload 4, 2) := by decide +kernel
theorem dX6_scatter_12 : decode cX6_scatter 12 = .ok (.ifCond .eq 9, 3) := by decide +kernel
theorem dX6_scatter_15 : decode cX6_scatter 15 = .ok (.iload 4, 2) := by decide +kernel
theorem dX6_scatter_17 : decode cX6_scatter 17 = .ok (.invokestatic 94, 3) := by decide +kernel
theorem dX6_scatter_20 : decode cX6_scatter 20 = .ok (.lreturn, 1) := by decide +kernel
theorem dX6_scatter_21 : decode cX6_scatter 21 = .ok (.aload_n 0, 1) := by decide +kernel
theorem dX6_scatter_22 : decode cX6_scatter 22 = .ok (.getfield 11, 3) := by decide +kernel
theorem dX6_scatter_25 : decode cX6_scatter 25 = .ok (.iload_n 2, 1) := by decide +kernel
theorem dX6_scatter_26 : decode cX6_scatter 26 = .ok (.aaload, 1) := by decide +kernel
theorem dX6_scatter_27 : decode cX6_scatter 27 = .ok (.astore 5, 2) := by decide +kernel
theorem dX6_scatter_29 : decode cX6_scatter 29 = .ok (.aload_n 0, 1) := by decide +kernel
theorem dX6_scatter_30 : decode cX6_scatter 30 = .ok (.getfield 35, 3) := by decide +kernel
theorem dX6_scatter_33 : decode cX6_scatter 33 = .ok (.getfield 172, 3) := by decide +kernel
theorem dX6_scatter_36 : decode cX6_scatter 36 = .ok (.i2l, 1) := by decide +kernel
theorem dX6_scatter_37 : decode cX6_scatter 37 = .ok (.lstore 6, 2) := by decide +kernel
theorem dX6_scatter_39 : decode cX6_scatter 39 = .ok (.aload_n 0, 1) := by decide +kernel
theorem dX6_scatter_40 : decode cX6_scatter 40 = .ok (.getfield 35, 3) := by decide +kernel
theorem dX6_scatter_43 : decode cX6_scatter 43 = .ok (.getfield 174, 3) := by decide +kernel
theorem dX6_scatter_46 : decode cX6_scatter 46 = .ok (.i2l, 1) := by decide +kernel
theorem dX6_scatter_47 : decode cX6_scatter 47 = .ok (.lstore 8, 2) := by decide +kernel
theorem dX6_scatter_49 : decode cX6_scatter 49 = .ok (.aload 5, 2) := by decide +kernel
theorem dX6_scatter_51 : decode cX6_scatter 51 = .ok (.getfield 108, 3) := by decide +kernel
theorem dX6_scatter_54 : decode cX6_scatter 54 = .ok (.i2l, 1) := by decide +kernel
theorem dX6_scatter_55 : decode cX6_scatter 55 = .ok (.lstore 10, 2) := by decide +kernel
theorem dX6_scatter_57 : decode cX6_scatter 57 = .ok (.aload 5, 2) := by decide +kernel
theorem dX6_scatter_59 : decode cX6_scatter 59 = .ok (.invokevirtual 180, 3) := by decide +kernel
theorem dX6_scatter_62 : decode cX6_scatter 62 = .ok (.lstore 12, 2) := by decide +kernel
theorem dX6_scatter_64 : decode cX6_scatter 64 = .ok (.aload_n 0, 1) := by decide +kernel
theorem dX6_scatter_65 : decode cX6_scatter 65 = .ok (.getfield 49, 3) := by decide +kernel
theorem dX6_scatter_68 : decode cX6_scatter 68 = .ok (.lload 8, 2) := by decide +kernel
theorem dX6_scatter_70 : decode cX6_scatter 70 = .ok (.lload 6, 2) := by decide +kernel
theorem dX6_scatter_72 : decode cX6_scatter 72 = .ok (.lload 8, 2) := by decide +kernel
theorem dX6_scatter_74 : decode cX6_scatter 74 = .ok (.lsub, 1) := by decide +kernel
theorem dX6_scatter_75 : decode cX6_scatter 75 = .ok (.lmul, 1) := by decide +kernel
theorem dX6_scatter_76 : decode cX6_scatter 76 = .ok (.lload 10, 2) := by decide +kernel
theorem dX6_scatter_78 : decode cX6_scatter 78 = .ok (.lmul, 1) := by decide +kernel
theorem dX6_scatter_79 : decode cX6_scatter 79 = .ok (.lload 10, 2) := by decide +kernel
theorem dX6_scatter_81 : decode cX6_scatter 81 = .ok (.lmul, 1) := by decide +kernel
theorem dX6_scatter_82 : decode cX6_scatter 82 = .ok (.lload 6, 2) := by decide +kernel
theorem dX6_scatter_84 : decode cX6_scatter 84 = .ok (.lload 6, 2) := by decide +kernel
theorem dX6_scatter_86 : decode cX6_scatter 86 = .ok (.lmul, 1) := by decide +kernel
theorem dX6_scatter_87 : decode cX6_scatter 87 = .ok (.lload 6, 2) := by decide +kernel
theorem dX6_scatter_89 : decode cX6_scatter 89 = .ok (.lconst 1, 1) := by decide +kernel
theorem dX6_scatter_90 : decode cX6_scatter 90 = .ok (.lsub, 1) := by decide +kernel
theorem dX6_scatter_91 : decode cX6_scatter 91 = .ok (.lmul, 1) := by decide +kernel
theorem dX6_scatter_92 : decode cX6_scatter 92 = .ok (.lload 12, 2) := by decide +kernel
theorem dX6_scatter_94 : decode cX6_scatter 94 = .ok (.lmul, 1) := by decide +kernel
theorem dX6_scatter_95 : decode cX6_scatter 95 = .ok (.lload 12, 2) := by decide +kernel
theorem dX6_scatter_97 : decode cX6_scatter 97 = .ok (.lmul, 1) := by decide +kernel
theorem dX6_scatter_98 : decode cX6_scatter 98 = .ok (.invokevirtual 111, 3) := by decide +kernel
theorem dX6_scatter_101 : decode cX6_scatter 101 = .ok (.aload_n 0, 1) := by decide +kernel
theorem dX6_scatter_102 : decode cX6_scatter 102 = .ok (.getfield 49, 3) := by decide +kernel
theorem dX6_scatter_105 : decode cX6_scatter 105 = .ok (.iload_n 3, 1) := by decide +kernel
theorem dX6_scatter_106 : decode cX6_scatter 106 = .ok (.invokevirtual 115, 3) := by decide +kernel
theorem dX6_scatter_109 : decode cX6_scatter 109 = .ok (.lreturn, 1) := by decide +kernel
theorem dX6_ways_0 : decode cX6_ways 0 = .ok (.aload_n 0, 1) := by decide +kernel
theorem dX6_ways_1 : decode cX6_ways 1 = .ok (.iload_n 1, 1) := by decide +kernel
theorem dX6_ways_2 : decode cX6_ways 2 = .ok (.iload_n 2, 1) := by decide +kernel
theorem dX6_ways_3 : decode cX6_ways 3 = .ok (.iload_n 3, 1) := by decide +kernel
theorem dX6_ways_4 : decode cX6_ways 4 = .ok (.invokevirtual 184, 3) := by decide +kernel
theorem dX6_ways_7 : decode cX6_ways 7 = .ok (.istore 4, 2) := by decide +kernel
theorem dX6_ways_9 : decode cX6_ways 9 = .ok (.iload 4, 2) := by decide +kernel
theorem dX6_ways_11 : decode cX6_ways 11 = .ok (.ifCond .eq 11, 3) := by decide +kernel
theorem dX6_ways_14 : decode cX6_ways 14 = .ok (.iload 4, 2) := by decide +kernel
theorem dX6_ways_16 : decode cX6_ways 16 = .ok (.invokestatic 94, 3) := by decide +kernel
theorem dX6_ways_19 : decode cX6_ways 19 = .ok (.goto 14, 3) := by decide +kernel
theorem dX6_ways_22 : decode cX6_ways 22 = .ok (.aload_n 0, 1) := by decide +kernel
theorem dX6_ways_23 : decode cX6_ways 23 = .ok (.aload_n 0, 1) := by decide +kernel
theorem dX6_ways_24 : decode cX6_ways 24 = .ok (.getfield 11, 3) := by decide +kernel
theorem dX6_ways_27 : decode cX6_ways 27 = .ok (.iload_n 2, 1) := by decide +kernel
theorem dX6_ways_28 : decode cX6_ways 28 = .ok (.aaload, 1) := by decide +kernel
theorem dX6_ways_29 : decode cX6_ways 29 = .ok (.iload_n 3, 1) := by decide +kernel
theorem dX6_ways_30 : decode cX6_ways 30 = .ok (.invokevirtual 188, 3) := by decide +kernel
theorem dX6_ways_33 : decode cX6_ways 33 = .ok (.lreturn, 1) := by decide +kernel
theorem dX6_likely_0 : decode cX6_likely 0 = .ok (.aload_n 0, 1) := by decide +kernel
theorem dX6_likely_1 : decode cX6_likely 1 = .ok (.iload_n 1, 1) := by decide +kernel
theorem dX6_likely_2 : decode cX6_likely 2 = .ok (.iload_n 2, 1) := by decide +kernel
theorem dX6_likely_3 : decode cX6_likely 3 = .ok (.iconst 0, 1) := by decide +kernel
theorem dX6_likely_4 : decode cX6_likely 4 = .ok (.invokevirtual 184, 3) := by decide +kernel
theorem dX6_likely_7 : decode cX6_likely 7 = .ok (.istore_n 3, 1) := by decide +kernel
theorem dX6_likely_8 : decode cX6_likely 8 = .ok (.iload_n 3, 1) := by decide +kernel
theorem dX6_likely_9 : decode cX6_likely 9 = .ok (.ifCond .eq 7, 3) := by decide +kernel
theorem dX6_likely_12 : decode cX6_likely 12 = .ok (.iload_n 3, 1) := by decide +kernel
theorem dX6_likely_13 : decode cX6_likely 13 = .ok (.goto 13, 3) := by decide +kernel
theorem dX6_likely_16 : decode cX6_likely 16 = .ok (.aload_n 0, 1) := by decide +kernel
theorem dX6_likely_17 : decode cX6_likely 17 = .ok (.aload_n 0, 1) := by decide +kernel
theorem dX6_likely_18 : decode cX6_likely 18 = .ok (.getfield 11, 3) := by decide +kernel
theorem dX6_likely_21 : decode cX6_likely 21 = .ok (.iload_n 2, 1) := by decide +kernel
theorem dX6_likely_22 : decode cX6_likely 22 = .ok (.aaload, 1) := by decide +kernel
theorem dX6_likely_23 : decode cX6_likely 23 = .ok (.invokevirtual 192, 3) := by decide +kernel
theorem dX6_likely_26 : decode cX6_likely 26 = .ok (.ireturn, 1) := by decide +kernel
theorem dX6_span_0 : decode cX6_span 0 = .ok (.iload_n 3, 1) := by decide +kernel
theorem dX6_span_1 : decode cX6_span 1 = .ok (.iconst 1, 1) := by decide +kernel
theorem dX6_span_2 : decode cX6_span 2 = .ok (.if_icmp .lt 17, 3) := by decide +kernel
theorem dX6_span_5 : decode cX6_span 5 = .ok (.iload_n 3, 1) := by decide +kernel
theorem dX6_span_6 : decode cX6_span 6 = .ok (.bipush 100, 2) := by decide +kernel
theorem dX6_span_8 : decode cX6_span 8 = .ok (.if_icmp .gt 11, 3) := by decide +kernel
theorem dX6_span_11 : decode cX6_span 11 = .ok (.iload 4, 2) := by decide +kernel
theorem dX6_span_13 : decode cX6_span 13 = .ok (.invokestatic 91, 3) := by decide +kernel
theorem dX6_span_16 : decode cX6_span 16 = .ok (.ifCond .ne 6, 3) := by decide +kernel
theorem dX6_span_19 : decode cX6_span 19 = .ok (.bipush (-2), 2) := by decide +kernel
theorem dX6_span_21 : decode cX6_span 21 = .ok (.ireturn, 1) := by decide +kernel
theorem dX6_span_22 : decode cX6_span 22 = .ok (.aload_n 0, 1) := by decide +kernel
theorem dX6_span_23 : decode cX6_span 23 = .ok (.iload_n 1, 1) := by decide +kernel
theorem dX6_span_24 : decode cX6_span 24 = .ok (.iload_n 2, 1) := by decide +kernel
theorem dX6_span_25 : decode cX6_span 25 = .ok (.iconst 0, 1) := by decide +kernel
theorem dX6_span_26 : decode cX6_span 26 = .ok (.invokevirtual 184, 3) := by decide +kernel
theorem dX6_span_29 : decode cX6_span 29 = .ok (.istore 5, 2) := by decide +kernel
theorem dX6_span_31 : decode cX6_span 31 = .ok (.iload 5, 2) := by decide +kernel
theorem dX6_span_33 : decode cX6_span 33 = .ok (.ifCond .eq 6, 3) := by decide +kernel
theorem dX6_span_36 : decode cX6_span 36 = .ok (.iload 5, 2) := by decide +kernel
theorem dX6_span_38 : decode cX6_span 38 = .ok (.ireturn, 1) := by decide +kernel
theorem dX6_span_39 : decode cX6_span 39 = .ok (.aload_n 0, 1) := by decide +kernel
theorem dX6_span_40 : decode cX6_span 40 = .ok (.getfield 11, 3) := by decide +kernel
theorem dX6_span_43 : decode cX6_span 43 = .ok (.iload_n 2, 1) := by decide +kernel
theorem dX6_span_44 : decode cX6_span 44 = .ok (.aaload, 1) := by decide +kernel
theorem dX6_span_45 : decode cX6_span 45 = .ok (.astore 6, 2) := by decide +kernel
theorem dX6_span_47 : decode cX6_span 47 = .ok (.aload_n 0, 1) := by decide +kernel
theorem dX6_span_48 : decode cX6_span 48 = .ok (.aload 6, 2) := by decide +kernel
theorem dX6_span_50 : decode cX6_span 50 = .ok (.aload_n 0, 1) := by decide +kernel
theorem dX6_span_51 : decode cX6_span 51 = .ok (.aload 6, 2) := by decide +kernel
theorem dX6_span_53 : decode cX6_span 53 = .ok (.invokevirtual 192, 3) := by decide +kernel
theorem dX6_span_56 : decode cX6_span 56 = .ok (.invokevirtual 188, 3) := by decide +kernel
theorem dX6_span_59 : decode cX6_span 59 = .ok (.iload_n 3, 1) := by decide +kernel
theorem dX6_span_60 : decode cX6_span 60 = .ok (.i2l, 1) := by decide +kernel
theorem dX6_span_61 : decode cX6_span 61 = .ok (.lmul, 1) := by decide +kernel
theorem dX6_span_62 : decode cX6_span 62 = .ok (.lstore 7, 2) := by decide +kernel
theorem dX6_span_64 : decode cX6_span 64 = .ok (.aload_n 0, 1) := by decide +kernel
theorem dX6_span_65 : decode cX6_span 65 = .ok (.getfield 35, 3) := by decide +kernel
theorem dX6_span_68 : decode cX6_span 68 = .ok (.getfield 172, 3) := by decide +kernel
theorem dX6_span_71 : decode cX6_span 71 = .ok (.istore 9, 2) := by decide +kernel
theorem dX6_span_73 : decode cX6_span 73 = .ok (.iconst (-1), 1) := by decide +kernel
theorem dX6_span_74 : decode cX6_span 74 = .ok (.istore 10, 2) := by decide +kernel
theorem dX6_span_76 : decode cX6_span 76 = .ok (.iconst 0, 1) := by decide +kernel
theorem dX6_span_77 : decode cX6_span 77 = .ok (.istore 11, 2) := by decide +kernel
theorem dX6_span_79 : decode cX6_span 79 = .ok (.iload 11, 2) := by decide +kernel
theorem dX6_span_81 : decode cX6_span 81 = .ok (.iload 9, 2) := by decide +kernel
theorem dX6_span_83 : decode cX6_span 83 = .ok (.if_icmp .gt 54, 3) := by decide +kernel
theorem dX6_span_86 : decode cX6_span 86 = .ok (.iload 10, 2) := by decide +kernel
