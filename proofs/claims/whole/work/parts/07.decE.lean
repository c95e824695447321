theorem dX10_saidBy_30 : decode cX10_saidBy 30 = .ok (.ireturn, 1) := by decide +kernel
theorem dX10_saidBy_31 : decode cX10_saidBy 31 = .ok (.aload_n 0, 1) := by decide +kernel
theorem dX10_saidBy_32 : decode cX10_saidBy 32 = .ok (.getfield 28, 3) := by decide +kernel
theorem dX10_saidBy_35 : decode cX10_saidBy 35 = .ok (.iload_n 1, 1) := by decide +kernel
theorem dX10_saidBy_36 : decode cX10_saidBy 36 = .ok (.iaload, 1) := by decide +kernel
theorem dX10_saidBy_37 : decode cX10_saidBy 37 = .ok (.iconst 2, 1) := by decide +kernel
theorem dX10_saidBy_38 : decode cX10_saidBy 38 = .ok (.if_icmp .eq 20, 3) := by decide +kernel
theorem dX10_saidBy_41 : decode cX10_saidBy 41 = .ok (.aload_n 0, 1) := by decide +kernel
theorem dX10_saidBy_42 : decode cX10_saidBy 42 = .ok (.getfield 28, 3) := by decide +kernel
theorem dX10_saidBy_45 : decode cX10_saidBy 45 = .ok (.iload_n 1, 1) := by decide +kernel
theorem dX10_saidBy_46 : decode cX10_saidBy 46 = .ok (.iaload, 1) := by decide +kernel
theorem dX10_saidBy_47 : decode cX10_saidBy 47 = .ok (.iconst 1, 1) := by decide +kernel
theorem dX10_saidBy_48 : decode cX10_saidBy 48 = .ok (.if_icmp .ne 7, 3) := by decide +kernel
theorem dX10_saidBy_51 : decode cX10_saidBy 51 = .ok (.iconst 1, 1) := by decide +kernel
theorem dX10_saidBy_52 : decode cX10_saidBy 52 = .ok (.goto 5, 3) := by decide +kernel
theorem dX10_saidBy_55 : decode cX10_saidBy 55 = .ok (.iload 4, 2) := by decide +kernel
theorem dX10_saidBy_57 : decode cX10_saidBy 57 = .ok (.ireturn, 1) := by decide +kernel
theorem dX10_saidBy_58 : decode cX10_saidBy 58 = .ok (.iconst 0, 1) := by decide +kernel
theorem dX10_saidBy_59 : decode cX10_saidBy 59 = .ok (.istore 5, 2) := by decide +kernel
theorem dX10_saidBy_61 : decode cX10_saidBy 61 = .ok (.iload 4, 2) := by decide +kernel
theorem dX10_saidBy_63 : decode cX10_saidBy 63 = .ok (.istore 6, 2) := by decide +kernel
theorem dX10_saidBy_65 : decode cX10_saidBy 65 = .ok (.iload 6, 2) := by decide +kernel
theorem dX10_saidBy_67 : decode cX10_saidBy 67 = .ok (.ifCond .le 36, 3) := by decide +kernel
theorem dX10_saidBy_70 : decode cX10_saidBy 70 = .ok (.aload_n 0, 1) := by decide +kernel
theorem dX10_saidBy_71 : decode cX10_saidBy 71 = .ok (.getfield 68, 3) := by decide +kernel
theorem dX10_saidBy_74 : decode cX10_saidBy 74 = .ok (.iload 6, 2) := by decide +kernel
theorem dX10_saidBy_76 : decode cX10_saidBy 76 = .ok (.iconst 1, 1) := by decide +kernel
theorem dX10_saidBy_77 : decode cX10_saidBy 77 = .ok (.isub, 1) := by decide +kernel
theorem dX10_saidBy_78 : decode cX10_saidBy 78 = .ok (.iaload, 1) := by decide +kernel
theorem dX10_saidBy_79 : decode cX10_saidBy 79 = .ok (.aload_n 0, 1) := by decide +kernel
theorem dX10_saidBy_80 : decode cX10_saidBy 80 = .ok (.getfield 22, 3) := by decide +kernel
theorem dX10_saidBy_83 : decode cX10_saidBy 83 = .ok (.iload_n 1, 1) := by decide +kernel
theorem dX10_saidBy_84 : decode cX10_saidBy 84 = .ok (.iaload, 1) := by decide +kernel
theorem dX10_saidBy_85 : decode cX10_saidBy 85 = .ok (.if_icmp .ne 8, 3) := by decide +kernel
theorem dX10_saidBy_88 : decode cX10_saidBy 88 = .ok (.iload 6, 2) := by decide +kernel
theorem dX10_saidBy_90 : decode cX10_saidBy 90 = .ok (.goto 5, 3) := by decide +kernel
theorem dX10_saidBy_93 : decode cX10_saidBy 93 = .ok (.iload 5, 2) := by decide +kernel
theorem dX10_saidBy_95 : decode cX10_saidBy 95 = .ok (.istore 5, 2) := by decide +kernel
theorem dX10_saidBy_97 : decode cX10_saidBy 97 = .ok (.iinc 6 (-1), 3) := by decide +kernel
theorem dX10_saidBy_100 : decode cX10_saidBy 100 = .ok (.goto (-35), 3) := by decide +kernel
theorem dX10_saidBy_103 : decode cX10_saidBy 103 = .ok (.iload_n 2, 1) := by decide +kernel
theorem dX10_saidBy_104 : decode cX10_saidBy 104 = .ok (.aload_n 0, 1) := by decide +kernel
theorem dX10_saidBy_105 : decode cX10_saidBy 105 = .ok (.getfield 22, 3) := by decide +kernel
theorem dX10_saidBy_108 : decode cX10_saidBy 108 = .ok (.iload_n 1, 1) := by decide +kernel
theorem dX10_saidBy_109 : decode cX10_saidBy 109 = .ok (.iaload, 1) := by decide +kernel
theorem dX10_saidBy_110 : decode cX10_saidBy 110 = .ok (.if_icmp .ne 7, 3) := by decide +kernel
theorem dX10_saidBy_113 : decode cX10_saidBy 113 = .ok (.iconst 0, 1) := by decide +kernel
theorem dX10_saidBy_114 : decode cX10_saidBy 114 = .ok (.goto 5, 3) := by decide +kernel
theorem dX10_saidBy_117 : decode cX10_saidBy 117 = .ok (.iload 5, 2) := by decide +kernel
theorem dX10_saidBy_119 : decode cX10_saidBy 119 = .ok (.ireturn, 1) := by decide +kernel
theorem dX10_says_0 : decode cX10_says 0 = .ok (.aload_n 0, 1) := by decide +kernel
theorem dX10_says_1 : decode cX10_says 1 = .ok (.iload_n 1, 1) := by decide +kernel
theorem dX10_says_2 : decode cX10_says 2 = .ok (.iload_n 2, 1) := by decide +kernel
theorem dX10_says_3 : decode cX10_says 3 = .ok (.iload_n 3, 1) := by decide +kernel
theorem dX10_says_4 : decode cX10_says 4 = .ok (.invokevirtual 259, 3) := by decide +kernel
theorem dX10_says_7 : decode cX10_says 7 = .ok (.ifCond .ne 6, 3) := by decide +kernel
theorem dX10_says_10 : decode cX10_says 10 = .ok (.ldc 242, 2) := by decide +kernel
theorem dX10_says_12 : decode cX10_says 12 = .ok (.ireturn, 1) := by decide +kernel
theorem dX10_says_13 : decode cX10_says 13 = .ok (.aload_n 0, 1) := by decide +kernel
theorem dX10_says_14 : decode cX10_says 14 = .ok (.iload_n 1, 1) := by decide +kernel
theorem dX10_says_15 : decode cX10_says 15 = .ok (.iload_n 2, 1) := by decide +kernel
theorem dX10_says_16 : decode cX10_says 16 = .ok (.iload_n 3, 1) := by decide +kernel
theorem dX10_says_17 : decode cX10_says 17 = .ok (.invokevirtual 277, 3) := by decide +kernel
theorem dX10_says_20 : decode cX10_says 20 = .ok (.istore 5, 2) := by decide +kernel
theorem dX10_says_22 : decode cX10_says 22 = .ok (.iload 4, 2) := by decide +kernel
theorem dX10_says_24 : decode cX10_says 24 = .ok (.tableswitch 69 0 4 #[36, 39, 47, 54, 62], 36) := by decide +kernel
theorem dX10_says_60 : decode cX10_says 60 = .ok (.iload 5, 2) := by decide +kernel
theorem dX10_says_62 : decode cX10_says 62 = .ok (.ireturn, 1) := by decide +kernel
theorem dX10_says_63 : decode cX10_says 63 = .ok (.aload_n 0, 1) := by decide +kernel
theorem dX10_says_64 : decode cX10_says 64 = .ok (.iload_n 2, 1) := by decide +kernel
theorem dX10_says_65 : decode cX10_says 65 = .ok (.iload 5, 2) := by decide +kernel
theorem dX10_says_67 : decode cX10_says 67 = .ok (.invokevirtual 274, 3) := by decide +kernel
theorem dX10_says_70 : decode cX10_says 70 = .ok (.ireturn, 1) := by decide +kernel
theorem dX10_says_71 : decode cX10_says 71 = .ok (.aload_n 0, 1) := by decide +kernel
theorem dX10_says_72 : decode cX10_says 72 = .ok (.iload 5, 2) := by decide +kernel
theorem dX10_says_74 : decode cX10_says 74 = .ok (.invokevirtual 267, 3) := by decide +kernel
theorem dX10_says_77 : decode cX10_says 77 = .ok (.ireturn, 1) := by decide +kernel
theorem dX10_says_78 : decode cX10_says 78 = .ok (.aload_n 0, 1) := by decide +kernel
theorem dX10_says_79 : decode cX10_says 79 = .ok (.iload_n 2, 1) := by decide +kernel
theorem dX10_says_80 : decode cX10_says 80 = .ok (.iload 5, 2) := by decide +kernel
theorem dX10_says_82 : decode cX10_says 82 = .ok (.invokevirtual 280, 3) := by decide +kernel
theorem dX10_says_85 : decode cX10_says 85 = .ok (.ireturn, 1) := by decide +kernel
theorem dX10_says_86 : decode cX10_says 86 = .ok (.aload_n 0, 1) := by decide +kernel
theorem dX10_says_87 : decode cX10_says 87 = .ok (.iload 5, 2) := by decide +kernel
theorem dX10_says_89 : decode cX10_says 89 = .ok (.invokevirtual 283, 3) := by decide +kernel
theorem dX10_says_92 : decode cX10_says 92 = .ok (.ireturn, 1) := by decide +kernel
theorem dX10_says_93 : decode cX10_says 93 = .ok (.ldc 136, 2) := by decide +kernel
theorem dX10_says_95 : decode cX10_says 95 = .ok (.ireturn, 1) := by decide +kernel
theorem dX10_gainOf_0 : decode cX10_gainOf 0 = .ok (.iconst 0, 1) := by decide +kernel
theorem dX10_gainOf_1 : decode cX10_gainOf 1 = .ok (.istore 4, 2) := by decide +kernel
theorem dX10_gainOf_3 : decode cX10_gainOf 3 = .ok (.iconst 1, 1) := by decide +kernel
theorem dX10_gainOf_4 : decode cX10_gainOf 4 = .ok (.istore 5, 2) := by decide +kernel
theorem dX10_gainOf_6 : decode cX10_gainOf 6 = .ok (.iload 5, 2) := by decide +kernel
theorem dX10_gainOf_8 : decode cX10_gainOf 8 = .ok (.aload_n 0, 1) := by decide +kernel
theorem dX10_gainOf_9 : decode cX10_gainOf 9 = .ok (.iload_n 3, 1) := by decide +kernel
theorem dX10_gainOf_10 : decode cX10_gainOf 10 = .ok (.invokevirtual 271, 3) := by decide +kernel
theorem dX10_gainOf_13 : decode cX10_gainOf 13 = .ok (.if_icmp .gt 37, 3) := by decide +kernel
theorem dX10_gainOf_16 : decode cX10_gainOf 16 = .ok (.iload 4, 2) := by decide +kernel
theorem dX10_gainOf_18 : decode cX10_gainOf 18 = .ok (.ifCond .ne 19, 3) := by decide +kernel
theorem dX10_gainOf_21 : decode cX10_gainOf 21 = .ok (.aload_n 0, 1) := by decide +kernel
theorem dX10_gainOf_22 : decode cX10_gainOf 22 = .ok (.iload_n 2, 1) := by decide +kernel
theorem dX10_gainOf_23 : decode cX10_gainOf 23 = .ok (.iload 5, 2) := by decide +kernel
theorem dX10_gainOf_25 : decode cX10_gainOf 25 = .ok (.invokevirtual 274, 3) := by decide +kernel
theorem dX10_gainOf_28 : decode cX10_gainOf 28 = .ok (.aload_n 0, 1) := by decide +kernel
theorem dX10_gainOf_29 : decode cX10_gainOf 29 = .ok (.getfield 22, 3) := by decide +kernel
theorem dX10_gainOf_32 : decode cX10_gainOf 32 = .ok (.iload_n 1, 1) := by decide +kernel
theorem dX10_gainOf_33 : decode cX10_gainOf 33 = .ok (.iaload, 1) := by decide +kernel
theorem dX10_gainOf_34 : decode cX10_gainOf 34 = .ok (.if_icmp .ne 7, 3) := by decide +kernel
theorem dX10_gainOf_37 : decode cX10_gainOf 37 = .ok (.iconst 1, 1) := by decide +kernel
theorem dX10_gainOf_38 : decode cX10_gainOf 38 = .ok (.goto 4, 3) := by decide +kernel
theorem dX10_gainOf_41 : decode cX10_gainOf 41 = .ok (.iconst 0, 1) := by decide +kernel
theorem dX10_gainOf_42 : decode cX10_gainOf 42 = .ok (.istore 4, 2) := by decide +kernel
theorem dX10_gainOf_44 : decode cX10_gainOf 44 = .ok (.iinc 5 1, 3) := by decide +kernel
theorem dX10_gainOf_47 : decode cX10_gainOf 47 = .ok (.goto (-41), 3) := by decide +kernel
theorem dX10_gainOf_50 : decode cX10_gainOf 50 = .ok (.iload 4, 2) := by decide +kernel
theorem dX10_gainOf_52 : decode cX10_gainOf 52 = .ok (.ifCond .eq 22, 3) := by decide +kernel
theorem dX10_gainOf_55 : decode cX10_gainOf 55 = .ok (.iload_n 2, 1) := by decide +kernel
theorem dX10_gainOf_56 : decode cX10_gainOf 56 = .ok (.aload_n 0, 1) := by decide +kernel
theorem dX10_gainOf_57 : decode cX10_gainOf 57 = .ok (.getfield 22, 3) := by decide +kernel
theorem dX10_gainOf_60 : decode cX10_gainOf 60 = .ok (.iload_n 1, 1) := by decide +kernel
theorem dX10_gainOf_61 : decode cX10_gainOf 61 = .ok (.iaload, 1) := by decide +kernel
theorem dX10_gainOf_62 : decode cX10_gainOf 62 = .ok (.if_icmp .eq 12, 3) := by decide +kernel
theorem dX10_gainOf_65 : decode cX10_gainOf 65 = .ok (.aload_n 0, 1) := by decide +kernel
theorem dX10_gainOf_66 : decode cX10_gainOf 66 = .ok (.getfield 25, 3) := by decide +kernel
theorem dX10_gainOf_69 : decode cX10_gainOf 69 = .ok (.iload_n 1, 1) := by decide +kernel
theorem dX10_gainOf_70 : decode cX10_gainOf 70 = .ok (.iaload, 1) := by decide +kernel
theorem dX10_gainOf_71 : decode cX10_gainOf 71 = .ok (.goto 4, 3) := by decide +kernel
theorem dX10_gainOf_74 : decode cX10_gainOf 74 = .ok (.iconst 0, 1) := by decide +kernel
theorem dX10_gainOf_75 : decode cX10_gainOf 75 = .ok (.aload_n 0, 1) := by decide +kernel
theorem dX10_gainOf_76 : decode cX10_gainOf 76 = .ok (.iload_n 3, 1) := by decide +kernel
theorem dX10_gainOf_77 : decode cX10_gainOf 77 = .ok (.invokevirtual 283, 3) := by decide +kernel
theorem dX10_gainOf_80 : decode cX10_gainOf 80 = .ok (.isub, 1) := by decide +kernel
theorem dX10_gainOf_81 : decode cX10_gainOf 81 = .ok (.ireturn, 1) := by decide +kernel
theorem dX10_ownBy_0 : decode cX10_ownBy 0 = .ok (.aload_n 0, 1) := by decide +kernel
theorem dX10_ownBy_1 : decode cX10_ownBy 1 = .ok (.aload_n 0, 1) := by decide +kernel
theorem dX10_ownBy_2 : decode cX10_ownBy 2 = .ok (.getfield 31, 3) := by decide +kernel
theorem dX10_ownBy_5 : decode cX10_ownBy 5 = .ok (.iload_n 1, 1) := by decide +kernel
theorem dX10_ownBy_6 : decode cX10_ownBy 6 = .ok (.iaload, 1) := by decide +kernel
theorem dX10_ownBy_7 : decode cX10_ownBy 7 = .ok (.iload_n 2, 1) := by decide +kernel
theorem dX10_ownBy_8 : decode cX10_ownBy 8 = .ok (.iload_n 3, 1) := by decide +kernel
theorem dX10_ownBy_9 : decode cX10_ownBy 9 = .ok (.invokevirtual 263, 3) := by decide +kernel
theorem dX10_ownBy_12 : decode cX10_ownBy 12 = .ok (.istore 4, 2) := by decide +kernel
theorem dX10_ownBy_14 : decode cX10_ownBy 14 = .ok (.iconst 0, 1) := by decide +kernel
theorem dX10_ownBy_15 : decode cX10_ownBy 15 = .ok (.istore 5, 2) := by decide +kernel
theorem dX10_ownBy_17 : decode cX10_ownBy 17 = .ok (.aload_n 0, 1) := by decide +kernel
theorem dX10_ownBy_18 : decode cX10_ownBy 18 = .ok (.iconst 0, 1) := by decide +kernel
theorem dX10_ownBy_19 : decode cX10_ownBy 19 = .ok (.putfield 286, 3) := by decide +kernel
theorem dX10_ownBy_22 : decode cX10_ownBy 22 = .ok (.iconst 1, 1) := by decide +kernel
theorem dX10_ownBy_23 : decode cX10_ownBy 23 = .ok (.istore 6, 2) := by decide +kernel
theorem dX10_ownBy_25 : decode cX10_ownBy 25 = .ok (.iload 6, 2) := by decide +kernel
theorem dX10_ownBy_27 : decode cX10_ownBy 27 = .ok (.iload 4, 2) := by decide +kernel
theorem dX10_ownBy_29 : decode cX10_ownBy 29 = .ok (.if_icmp .gt 59, 3) := by decide +kernel
theorem dX10_ownBy_32 : decode cX10_ownBy 32 = .ok (.aload_n 0, 1) := by decide +kernel
theorem dX10_ownBy_33 : decode cX10_ownBy 33 = .ok (.iload_n 1, 1) := by decide +kernel
theorem dX10_ownBy_34 : decode cX10_ownBy 34 = .ok (.iload_n 2, 1) := by decide +kernel
theorem dX10_ownBy_35 : decode cX10_ownBy 35 = .ok (.iload 6, 2) := by decide +kernel
theorem dX10_ownBy_37 : decode cX10_ownBy 37 = .ok (.invokevirtual 289, 3) := by decide +kernel
theorem dX10_ownBy_40 : decode cX10_ownBy 40 = .ok (.istore 7, 2) := by decide +kernel
theorem dX10_ownBy_42 : decode cX10_ownBy 42 = .ok (.iload 7, 2) := by decide +kernel
theorem dX10_ownBy_44 : decode cX10_ownBy 44 = .ok (.aload_n 0, 1) := by decide +kernel
theorem dX10_ownBy_45 : decode cX10_ownBy 45 = .ok (.getfield 286, 3) := by decide +kernel
theorem dX10_ownBy_48 : decode cX10_ownBy 48 = .ok (.if_icmp .le 8, 3) := by decide +kernel
theorem dX10_ownBy_51 : decode cX10_ownBy 51 = .ok (.iload 6, 2) := by decide +kernel
theorem dX10_ownBy_53 : decode cX10_ownBy 53 = .ok (.goto 5, 3) := by decide +kernel
theorem dX10_ownBy_56 : decode cX10_ownBy 56 = .ok (.iload 5, 2) := by decide +kernel
theorem dX10_ownBy_58 : decode cX10_ownBy 58 = .ok (.istore 5, 2) := by decide +kernel
theorem dX10_ownBy_60 : decode cX10_ownBy 60 = .ok (.aload_n 0, 1) := by decide +kernel
theorem dX10_ownBy_61 : decode cX10_ownBy 61 = .ok (.iload 7, 2) := by decide +kernel
theorem dX10_ownBy_63 : decode cX10_ownBy 63 = .ok (.aload_n 0, 1) := by decide +kernel
theorem dX10_ownBy_64 : decode cX10_ownBy 64 = .ok (.getfield 286, 3) := by decide +kernel
theorem dX10_ownBy_67 : decode cX10_ownBy 67 = .ok (.if_icmp .le 8, 3) := by decide +kernel
theorem dX10_ownBy_70 : decode cX10_ownBy 70 = .ok (.iload 7, 2) := by decide +kernel
theorem dX10_ownBy_72 : decode cX10_ownBy 72 = .ok (.goto 7, 3) := by decide +kernel
theorem dX10_ownBy_75 : decode cX10_ownBy 75 = .ok (.aload_n 0, 1) := by decide +kernel
theorem dX10_ownBy_76 : decode cX10_ownBy 76 = .ok (.getfield 286, 3) := by decide +kernel
theorem dX10_ownBy_79 : decode cX10_ownBy 79 = .ok (.putfield 286, 3) := by decide +kernel
theorem dX10_ownBy_82 : decode cX10_ownBy 82 = .ok (.iinc 6 1, 3) := by decide +kernel
theorem dX10_ownBy_85 : decode cX10_ownBy 85 = .ok (.goto (-60), 3) := by decide +kernel
theorem dX10_ownBy_88 : decode cX10_ownBy 88 = .ok (.iload 5, 2) := by decide +kernel
theorem dX10_ownBy_90 : decode cX10_ownBy 90 = .ok (.ireturn, 1) := by decide +kernel
theorem dX10_own_0 : decode cX10_own 0 = .ok (.aload_n 0, 1) := by decide +kernel
theorem dX10_own_1 : decode cX10_own 1 = .ok (.iload_n 1, 1) := by decide +kernel
theorem dX10_own_2 : decode cX10_own 2 = .ok (.iload_n 2, 1) := by decide +kernel
theorem dX10_own_3 : decode cX10_own 3 = .ok (.iload_n 3, 1) := by decide +kernel
theorem dX10_own_4 : decode cX10_own 4 = .ok (.invokevirtual 259, 3) := by decide +kernel
theorem dX10_own_7 : decode cX10_own 7 = .ok (.ifCond .ne 6, 3) := by decide +kernel
theorem dX10_own_10 : decode cX10_own 10 = .ok (.ldc 242, 2) := by decide +kernel
theorem dX10_own_12 : decode cX10_own 12 = .ok (.ireturn, 1) := by decide +kernel
theorem dX10_own_13 : decode cX10_own 13 = .ok (.aload_n 0, 1) := by decide +kernel
theorem dX10_own_14 : decode cX10_own 14 = .ok (.iload_n 1, 1) := by decide +kernel
theorem dX10_own_15 : decode cX10_own 15 = .ok (.iload_n 2, 1) := by decide +kernel
theorem dX10_own_16 : decode cX10_own 16 = .ok (.iload_n 3, 1) := by decide +kernel
theorem dX10_own_17 : decode cX10_own 17 = .ok (.invokevirtual 292, 3) := by decide +kernel
theorem dX10_own_20 : decode cX10_own 20 = .ok (.istore 5, 2) := by decide +kernel
theorem dX10_own_22 : decode cX10_own 22 = .ok (.iload 4, 2) := by decide +kernel
theorem dX10_own_24 : decode cX10_own 24 = .ok (.ifCond .ne 8, 3) := by decide +kernel
theorem dX10_own_27 : decode cX10_own 27 = .ok (.iload 5, 2) := by decide +kernel
theorem dX10_own_29 : decode cX10_own 29 = .ok (.goto 18, 3) := by decide +kernel
theorem dX10_own_32 : decode cX10_own 32 = .ok (.iload 4, 2) := by decide +kernel
theorem dX10_own_34 : decode cX10_own 34 = .ok (.iconst 1, 1) := by decide +kernel
theorem dX10_own_35 : decode cX10_own 35 = .ok (.if_icmp .ne 10, 3) := by decide +kernel
theorem dX10_own_38 : decode cX10_own 38 = .ok (.aload_n 0, 1) := by decide +kernel
theorem dX10_own_39 : decode cX10_own 39 = .ok (.getfield 286, 3) := by decide +kernel
theorem dX10_own_42 : decode cX10_own 42 = .ok (.goto 5, 3) := by decide +kernel
theorem dX10_own_45 : decode cX10_own 45 = .ok (.ldc 136, 2) := by decide +kernel
theorem dX10_own_47 : decode cX10_own 47 = .ok (.ireturn, 1) := by decide +kernel
theorem dX10_findEnds_0 : decode cX10_findEnds 0 = .ok (.iconst 0, 1) := by decide +kernel
theorem dX10_findEnds_1 : decode cX10_findEnds 1 = .ok (.istore_n 3, 1) := by decide +kernel
theorem dX10_findEnds_2 : decode cX10_findEnds 2 = .ok (.iload_n 3, 1) := by decide +kernel
theorem dX10_findEnds_3 : decode cX10_findEnds 3 = .ok (.aload_n 0, 1) := by decide +kernel
theorem dX10_findEnds_4 : decode cX10_findEnds 4 = .ok (.getfield 131, 3) := by decide +kernel
theorem dX10_findEnds_7 : decode cX10_findEnds 7 = .ok (.if_icmp .ge 81, 3) := by decide +kernel
theorem dX10_findEnds_10 : decode cX10_findEnds 10 = .ok (.iload_n 2, 1) := by decide +kernel
theorem dX10_findEnds_11 : decode cX10_findEnds 11 = .ok (.ifCond .eq 18, 3) := by decide +kernel
theorem dX10_findEnds_14 : decode cX10_findEnds 14 = .ok (.aload_n 0, 1) := by decide +kernel
theorem dX10_findEnds_15 : decode cX10_findEnds 15 = .ok (.iload_n 3, 1) := by decide +kernel
theorem dX10_findEnds_16 : decode cX10_findEnds 16 = .ok (.aload_n 0, 1) := by decide +kernel
theorem dX10_findEnds_17 : decode cX10_findEnds 17 = .ok (.getfield 19, 3) := by decide +kernel
theorem dX10_findEnds_20 : decode cX10_findEnds 20 = .ok (.iload_n 3, 1) := by decide +kernel
theorem dX10_findEnds_21 : decode cX10_findEnds 21 = .ok (.iaload, 1) := by decide +kernel
theorem dX10_findEnds_22 : decode cX10_findEnds 22 = .ok (.iload_n 1, 1) := by decide +kernel
theorem dX10_findEnds_23 : decode cX10_findEnds 23 = .ok (.invokevirtual 292, 3) := by decide +kernel
theorem dX10_findEnds_26 : decode cX10_findEnds 26 = .ok (.goto 15, 3) := by decide +kernel
theorem dX10_findEnds_29 : decode cX10_findEnds 29 = .ok (.aload_n 0, 1) := by decide +kernel
theorem dX10_findEnds_30 : decode cX10_findEnds 30 = .ok (.iload_n 3, 1) := by decide +kernel
theorem dX10_findEnds_31 : decode cX10_findEnds 31 = .ok (.aload_n 0, 1) := by decide +kernel
theorem dX10_findEnds_32 : decode cX10_findEnds 32 = .ok (.getfield 19, 3) := by decide +kernel
theorem dX10_findEnds_35 : decode cX10_findEnds 35 = .ok (.iload_n 3, 1) := by decide +kernel
theorem dX10_findEnds_36 : decode cX10_findEnds 36 = .ok (.iaload, 1) := by decide +kernel
theorem dX10_findEnds_37 : decode cX10_findEnds 37 = .ok (.iload_n 1, 1) := by decide +kernel
theorem dX10_findEnds_38 : decode cX10_findEnds 38 = .ok (.invokevirtual 277, 3) := by decide +kernel
theorem dX10_findEnds_41 : decode cX10_findEnds 41 = .ok (.istore 4, 2) := by decide +kernel
theorem dX10_findEnds_43 : decode cX10_findEnds 43 = .ok (.aload_n 0, 1) := by decide +kernel
theorem dX10_findEnds_44 : decode cX10_findEnds 44 = .ok (.getfield 74, 3) := by decide +kernel
theorem dX10_findEnds_47 : decode cX10_findEnds 47 = .ok (.iload_n 3, 1) := by decide +kernel
theorem dX10_findEnds_48 : decode cX10_findEnds 48 = .ok (.iload 4, 2) := by decide +kernel
theorem dX10_findEnds_50 : decode cX10_findEnds 50 = .ok (.ifCond .ne 7, 3) := by decide +kernel
theorem dX10_findEnds_53 : decode cX10_findEnds 53 = .ok (.iconst (-1), 1) := by decide +kernel
theorem dX10_findEnds_54 : decode cX10_findEnds 54 = .ok (.goto 15, 3) := by decide +kernel
theorem dX10_findEnds_57 : decode cX10_findEnds 57 = .ok (.aload_n 0, 1) := by decide +kernel
theorem dX10_findEnds_58 : decode cX10_findEnds 58 = .ok (.aload_n 0, 1) := by decide +kernel
theorem dX10_findEnds_59 : decode cX10_findEnds 59 = .ok (.getfield 19, 3) := by decide +kernel
theorem dX10_findEnds_62 : decode cX10_findEnds 62 = .ok (.iload_n 3, 1) := by decide +kernel
theorem dX10_findEnds_63 : decode cX10_findEnds 63 = .ok (.iaload, 1) := by decide +kernel
theorem dX10_findEnds_64 : decode cX10_findEnds 64 = .ok (.iload 4, 2) := by decide +kernel
theorem dX10_findEnds_66 : decode cX10_findEnds 66 = .ok (.invokevirtual 274, 3) := by decide +kernel
theorem dX10_findEnds_69 : decode cX10_findEnds 69 = .ok (.iastore, 1) := by decide +kernel
theorem dX10_findEnds_70 : decode cX10_findEnds 70 = .ok (.aload_n 0, 1) := by decide +kernel
theorem dX10_findEnds_71 : decode cX10_findEnds 71 = .ok (.getfield 77, 3) := by decide +kernel
theorem dX10_findEnds_74 : decode cX10_findEnds 74 = .ok (.iload_n 3, 1) := by decide +kernel
theorem dX10_findEnds_75 : decode cX10_findEnds 75 = .ok (.aload_n 0, 1) := by decide +kernel
theorem dX10_findEnds_76 : decode cX10_findEnds 76 = .ok (.iload 4, 2) := by decide +kernel
theorem dX10_findEnds_78 : decode cX10_findEnds 78 = .ok (.invokevirtual 267, 3) := by decide +kernel
theorem dX10_findEnds_81 : decode cX10_findEnds 81 = .ok (.iastore, 1) := by decide +kernel
theorem dX10_findEnds_82 : decode cX10_findEnds 82 = .ok (.iinc 3 1, 3) := by decide +kernel
theorem dX10_findEnds_85 : decode cX10_findEnds 85 = .ok (.goto (-83), 3) := by decide +kernel
theorem dX10_findEnds_88 : decode cX10_findEnds 88 = .ok (.return_, 1) := by decide +kernel
theorem dX10_leads_0 : decode cX10_leads 0 = .ok (.iload_n 2, 1) := by decide +kernel
theorem dX10_leads_1 : decode cX10_leads 1 = .ok (.iload_n 1, 1) := by decide +kernel
theorem dX10_leads_2 : decode cX10_leads 2 = .ok (.invokestatic 210, 3) := by decide +kernel
theorem dX10_leads_5 : decode cX10_leads 5 = .ok (.ifCond .ne 26, 3) := by decide +kernel
theorem dX10_leads_8 : decode cX10_leads 8 = .ok (.aload_n 0, 1) := by decide +kernel
theorem dX10_leads_9 : decode cX10_leads 9 = .ok (.getfield 19, 3) := by decide +kernel
theorem dX10_leads_12 : decode cX10_leads 12 = .ok (.iload_n 1, 1) := by decide +kernel
theorem dX10_leads_13 : decode cX10_leads 13 = .ok (.iaload, 1) := by decide +kernel
theorem dX10_leads_14 : decode cX10_leads 14 = .ok (.iload_n 3, 1) := by decide +kernel
theorem dX10_leads_15 : decode cX10_leads 15 = .ok (.if_icmp .ne 16, 3) := by decide +kernel
theorem dX10_leads_18 : decode cX10_leads 18 = .ok (.aload_n 0, 1) := by decide +kernel
theorem dX10_leads_19 : decode cX10_leads 19 = .ok (.getfield 74, 3) := by decide +kernel
theorem dX10_leads_22 : decode cX10_leads 22 = .ok (.iload_n 1, 1) := by decide +kernel
theorem dX10_leads_23 : decode cX10_leads 23 = .ok (.iaload, 1) := by decide +kernel
theorem dX10_leads_24 : decode cX10_leads 24 = .ok (.ifCond .lt 7, 3) := by decide +kernel
theorem dX10_leads_27 : decode cX10_leads 27 = .ok (.iconst 1, 1) := by decide +kernel
theorem dX10_leads_28 : decode cX10_leads 28 = .ok (.goto 4, 3) := by decide +kernel
theorem dX10_leads_31 : decode cX10_leads 31 = .ok (.iconst 0, 1) := by decide +kernel
theorem dX10_leads_32 : decode cX10_leads 32 = .ok (.ireturn, 1) := by decide +kernel
theorem dX10_led_0 : decode cX10_led 0 = .ok (.aload_n 0, 1) := by decide +kernel
theorem dX10_led_1 : decode cX10_led 1 = .ok (.iload_n 1, 1) := by decide +kernel
theorem dX10_led_2 : decode cX10_led 2 = .ok (.invokevirtual 256, 3) := by decide +kernel
theorem dX10_led_5 : decode cX10_led 5 = .ok (.ifCond .eq 11, 3) := by decide +kernel
theorem dX10_led_8 : decode cX10_led 8 = .ok (.aload_n 0, 1) := by decide +kernel
theorem dX10_led_9 : decode cX10_led 9 = .ok (.iload_n 2, 1) := by decide +kernel
theorem dX10_led_10 : decode cX10_led 10 = .ok (.invokevirtual 256, 3) := by decide +kernel
theorem dX10_led_13 : decode cX10_led 13 = .ok (.ifCond .ne 6, 3) := by decide +kernel
theorem dX10_led_16 : decode cX10_led 16 = .ok (.ldc 242, 2) := by decide +kernel
theorem dX10_led_18 : decode cX10_led 18 = .ok (.ireturn, 1) := by decide +kernel
theorem dX10_led_19 : decode cX10_led 19 = .ok (.iload 4, 2) := by decide +kernel
theorem dX10_led_21 : decode cX10_led 21 = .ok (.i2l, 1) := by decide +kernel
theorem dX10_led_22 : decode cX10_led 22 = .ok (.lconst 0, 1) := by decide +kernel
theorem dX10_led_23 : decode cX10_led 23 = .ok (.ldc2_w 246, 3) := by decide +kernel
theorem dX10_led_26 : decode cX10_led 26 = .ok (.invokestatic 124, 3) := by decide +kernel
theorem dX10_led_29 : decode cX10_led 29 = .ok (.ifCond .ne 6, 3) := by decide +kernel
theorem dX10_led_32 : decode cX10_led 32 = .ok (.ldc 136, 2) := by decide +kernel
theorem dX10_led_34 : decode cX10_led 34 = .ok (.ireturn, 1) := by decide +kernel
theorem dX10_led_35 : decode cX10_led 35 = .ok (.aload_n 0, 1) := by decide +kernel
theorem dX10_led_36 : decode cX10_led 36 = .ok (.iload_n 2, 1) := by decide +kernel
theorem dX10_led_37 : decode cX10_led 37 = .ok (.iload_n 3, 1) := by decide +kernel
theorem dX10_led_38 : decode cX10_led 38 = .ok (.invokevirtual 295, 3) := by decide +kernel
theorem dX10_led_41 : decode cX10_led 41 = .ok (.iload_n 1, 1) := by decide +kernel
theorem dX10_led_42 : decode cX10_led 42 = .ok (.istore 5, 2) := by decide +kernel
theorem dX10_led_44 : decode cX10_led 44 = .ok (.iconst 0, 1) := by decide +kernel
theorem dX10_led_45 : decode cX10_led 45 = .ok (.istore 6, 2) := by decide +kernel
theorem dX10_led_47 : decode cX10_led 47 = .ok (.iconst 0, 1) := by decide +kernel
theorem dX10_led_48 : decode cX10_led 48 = .ok (.istore 7, 2) := by decide +kernel
theorem dX10_led_50 : decode cX10_led 50 = .ok (.iconst 0, 1) := by decide +kernel
theorem dX10_led_51 : decode cX10_led 51 = .ok (.istore 8, 2) := by decide +kernel
theorem dX10_led_53 : decode cX10_led 53 = .ok (.iconst 0, 1) := by decide +kernel
theorem dX10_led_54 : decode cX10_led 54 = .ok (.istore 9, 2) := by decide +kernel
theorem dX10_led_56 : decode cX10_led 56 = .ok (.iload 5, 2) := by decide +kernel
theorem dX10_led_58 : decode cX10_led 58 = .ok (.iload_n 2, 1) := by decide +kernel
theorem dX10_led_59 : decode cX10_led 59 = .ok (.if_icmp .eq 105, 3) := by decide +kernel
theorem dX10_led_62 : decode cX10_led 62 = .ok (.iload 9, 2) := by decide +kernel
theorem dX10_led_64 : decode cX10_led 64 = .ok (.ifCond .ne 100, 3) := by decide +kernel
theorem dX10_led_67 : decode cX10_led 67 = .ok (.iconst (-1), 1) := by decide +kernel
theorem dX10_led_68 : decode cX10_led 68 = .ok (.istore 10, 2) := by decide +kernel
theorem dX10_led_70 : decode cX10_led 70 = .ok (.aload_n 0, 1) := by decide +kernel
theorem dX10_led_71 : decode cX10_led 71 = .ok (.getfield 131, 3) := by decide +kernel
theorem dX10_led_74 : decode cX10_led 74 = .ok (.iconst 1, 1) := by decide +kernel
theorem dX10_led_75 : decode cX10_led 75 = .ok (.isub, 1) := by decide +kernel
theorem dX10_led_76 : decode cX10_led 76 = .ok (.istore 11, 2) := by decide +kernel
theorem dX10_led_78 : decode cX10_led 78 = .ok (.iload 11, 2) := by decide +kernel
theorem dX10_led_80 : decode cX10_led 80 = .ok (.ifCond .lt 31, 3) := by decide +kernel
theorem dX10_led_83 : decode cX10_led 83 = .ok (.aload_n 0, 1) := by decide +kernel
theorem dX10_led_84 : decode cX10_led 84 = .ok (.iload 11, 2) := by decide +kernel
theorem dX10_led_86 : decode cX10_led 86 = .ok (.iload 6, 2) := by decide +kernel
theorem dX10_led_88 : decode cX10_led 88 = .ok (.iload 5, 2) := by decide +kernel
theorem dX10_led_90 : decode cX10_led 90 = .ok (.invokevirtual 299, 3) := by decide +kernel
theorem dX10_led_93 : decode cX10_led 93 = .ok (.ifCond .eq 8, 3) := by decide +kernel
theorem dX10_led_96 : decode cX10_led 96 = .ok (.iload 11, 2) := by decide +kernel
theorem dX10_led_98 : decode cX10_led 98 = .ok (.goto 5, 3) := by decide +kernel
theorem dX10_led_101 : decode cX10_led 101 = .ok (.iload 10, 2) := by decide +kernel
theorem dX10_led_103 : decode cX10_led 103 = .ok (.istore 10, 2) := by decide +kernel
theorem dX10_led_105 : decode cX10_led 105 = .ok (.iinc 11 (-1), 3) := by decide +kernel
theorem dX10_led_108 : decode cX10_led 108 = .ok (.goto (-30), 3) := by decide +kernel
theorem dX10_led_111 : decode cX10_led 111 = .ok (.iload 10, 2) := by decide +kernel
theorem dX10_led_113 : decode cX10_led 113 = .ok (.ifCond .ge 7, 3) := by decide +kernel
theorem dX10_led_116 : decode cX10_led 116 = .ok (.iconst 1, 1) := by decide +kernel
theorem dX10_led_117 : decode cX10_led 117 = .ok (.goto 4, 3) := by decide +kernel
theorem dX10_led_120 : decode cX10_led 120 = .ok (.iconst 0, 1) := by decide +kernel
theorem dX10_led_121 : decode cX10_led 121 = .ok (.istore 9, 2) := by decide +kernel
theorem dX10_led_123 : decode cX10_led 123 = .ok (.iload 9, 2) := by decide +kernel
theorem dX10_led_125 : decode cX10_led 125 = .ok (.ifCond .ne 36, 3) := by decide +kernel
theorem dX10_led_128 : decode cX10_led 128 = .ok (.iload 6, 2) := by decide +kernel
theorem dX10_led_130 : decode cX10_led 130 = .ok (.iconst 1, 1) := by decide +kernel
theorem dX10_led_131 : decode cX10_led 131 = .ok (.iload 10, 2) := by decide +kernel
theorem dX10_led_133 : decode cX10_led 133 = .ok (.ishl, 1) := by decide +kernel
theorem dX10_led_134 : decode cX10_led 134 = .ok (.ior, 1) := by decide +kernel
theorem dX10_led_135 : decode cX10_led 135 = .ok (.istore 6, 2) := by decide +kernel
theorem dX10_led_137 : decode cX10_led 137 = .ok (.iinc 8 1, 3) := by decide +kernel
theorem dX10_led_140 : decode cX10_led 140 = .ok (.iload 7, 2) := by decide +kernel
theorem dX10_led_142 : decode cX10_led 142 = .ok (.aload_n 0, 1) := by decide +kernel
theorem dX10_led_143 : decode cX10_led 143 = .ok (.getfield 77, 3) := by decide +kernel
theorem dX10_led_146 : decode cX10_led 146 = .ok (.iload 10, 2) := by decide +kernel
theorem dX10_led_148 : decode cX10_led 148 = .ok (.iaload, 1) := by decide +kernel
theorem dX10_led_149 : decode cX10_led 149 = .ok (.iadd, 1) := by decide +kernel
theorem dX10_led_150 : decode cX10_led 150 = .ok (.istore 7, 2) := by decide +kernel
theorem dX10_led_152 : decode cX10_led 152 = .ok (.aload_n 0, 1) := by decide +kernel
theorem dX10_led_153 : decode cX10_led 153 = .ok (.getfield 74, 3) := by decide +kernel
theorem dX10_led_156 : decode cX10_led 156 = .ok (.iload 10, 2) := by decide +kernel
theorem dX10_led_158 : decode cX10_led 158 = .ok (.iaload, 1) := by decide +kernel
theorem dX10_led_159 : decode cX10_led 159 = .ok (.istore 5, 2) := by decide +kernel
theorem dX10_led_161 : decode cX10_led 161 = .ok (.goto (-105), 3) := by decide +kernel
theorem dX10_led_164 : decode cX10_led 164 = .ok (.iload 4, 2) := by decide +kernel
theorem dX10_led_166 : decode cX10_led 166 = .ok (.ifCond .ne 8, 3) := by decide +kernel
theorem dX10_led_169 : decode cX10_led 169 = .ok (.iload 7, 2) := by decide +kernel
theorem dX10_led_171 : decode cX10_led 171 = .ok (.goto 35, 3) := by decide +kernel
theorem dX10_led_174 : decode cX10_led 174 = .ok (.iload 4, 2) := by decide +kernel
theorem dX10_led_176 : decode cX10_led 176 = .ok (.iconst 1, 1) := by decide +kernel
theorem dX10_led_177 : decode cX10_led 177 = .ok (.if_icmp .ne 8, 3) := by decide +kernel
theorem dX10_led_180 : decode cX10_led 180 = .ok (.iload 5, 2) := by decide +kernel
theorem dX10_led_182 : decode cX10_led 182 = .ok (.goto 24, 3) := by decide +kernel
theorem dX10_led_185 : decode cX10_led 185 = .ok (.iload 4, 2) := by decide +kernel
theorem dX10_led_187 : decode cX10_led 187 = .ok (.iconst 2, 1) := by decide +kernel
theorem dX10_led_188 : decode cX10_led 188 = .ok (.if_icmp .ne 16, 3) := by decide +kernel
theorem dX10_led_191 : decode cX10_led 191 = .ok (.iload 9, 2) := by decide +kernel
theorem dX10_led_193 : decode cX10_led 193 = .ok (.ifCond .eq 7, 3) := by decide +kernel
theorem dX10_led_196 : decode cX10_led 196 = .ok (.iconst 1, 1) := by decide +kernel
theorem dX10_led_197 : decode cX10_led 197 = .ok (.goto 9, 3) := by decide +kernel
theorem dX10_led_200 : decode cX10_led 200 = .ok (.iconst 0, 1) := by decide +kernel
theorem dX10_led_201 : decode cX10_led 201 = .ok (.goto 5, 3) := by decide +kernel
theorem dX10_led_204 : decode cX10_led 204 = .ok (.iload 8, 2) := by decide +kernel
theorem dX10_led_206 : decode cX10_led 206 = .ok (.ireturn, 1) := by decide +kernel
theorem dX10_findSoon_0 : decode cX10_findSoon 0 = .ok (.bipush 63, 2) := by decide +kernel
theorem dX10_findSoon_2 : decode cX10_findSoon 2 = .ok (.istore_n 2, 1) := by decide +kernel
theorem dX10_findSoon_3 : decode cX10_findSoon 3 = .ok (.iload_n 2, 1) := by decide +kernel
theorem dX10_findSoon_4 : decode cX10_findSoon 4 = .ok (.ifCond .lt 138, 3) := by decide +kernel
theorem dX10_findSoon_7 : decode cX10_findSoon 7 = .ok (.iconst 0, 1) := by decide +kernel
theorem dX10_findSoon_8 : decode cX10_findSoon 8 = .ok (.istore_n 3, 1) := by decide +kernel
theorem dX10_findSoon_9 : decode cX10_findSoon 9 = .ok (.iload_n 3, 1) := by decide +kernel
theorem dX10_findSoon_10 : decode cX10_findSoon 10 = .ok (.aload_n 0, 1) := by decide +kernel
theorem dX10_findSoon_11 : decode cX10_findSoon 11 = .ok (.getfield 121, 3) := by decide +kernel
theorem dX10_findSoon_14 : decode cX10_findSoon 14 = .ok (.if_icmp .ge 122, 3) := by decide +kernel
theorem dX10_findSoon_17 : decode cX10_findSoon 17 = .ok (.iload_n 3, 1) := by decide +kernel
theorem dX10_findSoon_18 : decode cX10_findSoon 18 = .ok (.iload_n 1, 1) := by decide +kernel
theorem dX10_findSoon_19 : decode cX10_findSoon 19 = .ok (.if_icmp .ne 7, 3) := by decide +kernel
theorem dX10_findSoon_22 : decode cX10_findSoon 22 = .ok (.iconst 0, 1) := by decide +kernel
theorem dX10_findSoon_23 : decode cX10_findSoon 23 = .ok (.goto 5, 3) := by decide +kernel
theorem dX10_findSoon_26 : decode cX10_findSoon 26 = .ok (.ldc 248, 2) := by decide +kernel
theorem dX10_findSoon_28 : decode cX10_findSoon 28 = .ok (.istore 4, 2) := by decide +kernel
theorem dX10_findSoon_30 : decode cX10_findSoon 30 = .ok (.iconst 0, 1) := by decide +kernel
theorem dX10_findSoon_31 : decode cX10_findSoon 31 = .ok (.istore 5, 2) := by decide +kernel
theorem dX10_findSoon_33 : decode cX10_findSoon 33 = .ok (.iload 5, 2) := by decide +kernel
theorem dX10_findSoon_35 : decode cX10_findSoon 35 = .ok (.aload_n 0, 1) := by decide +kernel
theorem dX10_findSoon_36 : decode cX10_findSoon 36 = .ok (.getfield 131, 3) := by decide +kernel
theorem dX10_findSoon_39 : decode cX10_findSoon 39 = .ok (.if_icmp .ge 78, 3) := by decide +kernel
theorem dX10_findSoon_42 : decode cX10_findSoon 42 = .ok (.iload_n 3, 1) := by decide +kernel
theorem dX10_findSoon_43 : decode cX10_findSoon 43 = .ok (.iload_n 1, 1) := by decide +kernel
theorem dX10_findSoon_44 : decode cX10_findSoon 44 = .ok (.if_icmp .eq 73, 3) := by decide +kernel
theorem dX10_findSoon_47 : decode cX10_findSoon 47 = .ok (.aload_n 0, 1) := by decide +kernel
theorem dX10_findSoon_48 : decode cX10_findSoon 48 = .ok (.iload 5, 2) := by decide +kernel
theorem dX10_findSoon_50 : decode cX10_findSoon 50 = .ok (.iload_n 2, 1) := by decide +kernel
theorem dX10_findSoon_51 : decode cX10_findSoon 51 = .ok (.iload_n 3, 1) := by decide +kernel
theorem dX10_findSoon_52 : decode cX10_findSoon 52 = .ok (.invokevirtual 299, 3) := by decide +kernel
theorem dX10_findSoon_55 : decode cX10_findSoon 55 = .ok (.ifCond .eq 56, 3) := by decide +kernel
theorem dX10_findSoon_58 : decode cX10_findSoon 58 = .ok (.aload_n 0, 1) := by decide +kernel
theorem dX10_findSoon_59 : decode cX10_findSoon 59 = .ok (.getfield 80, 3) := by decide +kernel
theorem dX10_findSoon_62 : decode cX10_findSoon 62 = .ok (.bipush 10, 2) := by decide +kernel
theorem dX10_findSoon_64 : decode cX10_findSoon 64 = .ok (.iload_n 2, 1) := by decide +kernel
theorem dX10_findSoon_65 : decode cX10_findSoon 65 = .ok (.iconst 1, 1) := by decide +kernel
theorem dX10_findSoon_66 : decode cX10_findSoon 66 = .ok (.iload 5, 2) := by decide +kernel
theorem dX10_findSoon_68 : decode cX10_findSoon 68 = .ok (.ishl, 1) := by decide +kernel
theorem dX10_findSoon_69 : decode cX10_findSoon 69 = .ok (.ior, 1) := by decide +kernel
theorem dX10_findSoon_70 : decode cX10_findSoon 70 = .ok (.imul, 1) := by decide +kernel
theorem dX10_findSoon_71 : decode cX10_findSoon 71 = .ok (.aload_n 0, 1) := by decide +kernel
theorem dX10_findSoon_72 : decode cX10_findSoon 72 = .ok (.getfield 74, 3) := by decide +kernel
theorem dX10_findSoon_75 : decode cX10_findSoon 75 = .ok (.iload 5, 2) := by decide +kernel
theorem dX10_findSoon_77 : decode cX10_findSoon 77 = .ok (.iaload, 1) := by decide +kernel
theorem dX10_findSoon_78 : decode cX10_findSoon 78 = .ok (.iadd, 1) := by decide +kernel
theorem dX10_findSoon_79 : decode cX10_findSoon 79 = .ok (.iaload, 1) := by decide +kernel
theorem dX10_findSoon_80 : decode cX10_findSoon 80 = .ok (.bipush 16, 2) := by decide +kernel
theorem dX10_findSoon_82 : decode cX10_findSoon 82 = .ok (.aload_n 0, 1) := by decide +kernel
theorem dX10_findSoon_83 : decode cX10_findSoon 83 = .ok (.getfield 77, 3) := by decide +kernel
theorem dX10_findSoon_86 : decode cX10_findSoon 86 = .ok (.iload 5, 2) := by decide +kernel
theorem dX10_findSoon_88 : decode cX10_findSoon 88 = .ok (.iaload, 1) := by decide +kernel
theorem dX10_findSoon_89 : decode cX10_findSoon 89 = .ok (.imul, 1) := by decide +kernel
theorem dX10_findSoon_90 : decode cX10_findSoon 90 = .ok (.iadd, 1) := by decide +kernel
theorem dX10_findSoon_91 : decode cX10_findSoon 91 = .ok (.iconst 1, 1) := by decide +kernel
theorem dX10_findSoon_92 : decode cX10_findSoon 92 = .ok (.iadd, 1) := by decide +kernel
theorem dX10_findSoon_93 : decode cX10_findSoon 93 = .ok (.istore 6, 2) := by decide +kernel
theorem dX10_findSoon_95 : decode cX10_findSoon 95 = .ok (.iload 6, 2) := by decide +kernel
theorem dX10_findSoon_97 : decode cX10_findSoon 97 = .ok (.iload 4, 2) := by decide +kernel
theorem dX10_findSoon_99 : decode cX10_findSoon 99 = .ok (.if_icmp .ge 8, 3) := by decide +kernel
theorem dX10_findSoon_102 : decode cX10_findSoon 102 = .ok (.iload 6, 2) := by decide +kernel
theorem dX10_findSoon_104 : decode cX10_findSoon 104 = .ok (.goto 5, 3) := by decide +kernel
theorem dX10_findSoon_107 : decode cX10_findSoon 107 = .ok (.iload 4, 2) := by decide +kernel
theorem dX10_findSoon_109 : decode cX10_findSoon 109 = .ok (.istore 4, 2) := by decide +kernel
theorem dX10_findSoon_111 : decode cX10_findSoon 111 = .ok (.iinc 5 1, 3) := by decide +kernel
theorem dX10_findSoon_114 : decode cX10_findSoon 114 = .ok (.goto (-81), 3) := by decide +kernel
theorem dX10_findSoon_117 : decode cX10_findSoon 117 = .ok (.aload_n 0, 1) := by decide +kernel
theorem dX10_findSoon_118 : decode cX10_findSoon 118 = .ok (.getfield 80, 3) := by decide +kernel
theorem dX10_findSoon_121 : decode cX10_findSoon 121 = .ok (.bipush 10, 2) := by decide +kernel
theorem dX10_findSoon_123 : decode cX10_findSoon 123 = .ok (.iload_n 2, 1) := by decide +kernel
theorem dX10_findSoon_124 : decode cX10_findSoon 124 = .ok (.imul, 1) := by decide +kernel
theorem dX10_findSoon_125 : decode cX10_findSoon 125 = .ok (.iload_n 3, 1) := by decide +kernel
theorem dX10_findSoon_126 : decode cX10_findSoon 126 = .ok (.iadd, 1) := by decide +kernel
theorem dX10_findSoon_127 : decode cX10_findSoon 127 = .ok (.iload 4, 2) := by decide +kernel
theorem dX10_findSoon_129 : decode cX10_findSoon 129 = .ok (.iastore, 1) := by decide +kernel
theorem dX10_findSoon_130 : decode cX10_findSoon 130 = .ok (.iinc 3 1, 3) := by decide +kernel
theorem dX10_findSoon_133 : decode cX10_findSoon 133 = .ok (.goto (-124), 3) := by decide +kernel
theorem dX10_findSoon_136 : decode cX10_findSoon 136 = .ok (.iinc 2 (-1), 3) := by decide +kernel
theorem dX10_findSoon_139 : decode cX10_findSoon 139 = .ok (.goto (-136), 3) := by decide +kernel
theorem dX10_findSoon_142 : decode cX10_findSoon 142 = .ok (.return_, 1) := by decide +kernel
theorem dX10_soonestOf_0 : decode cX10_soonestOf 0 = .ok (.aload_n 0, 1) := by decide +kernel
theorem dX10_soonestOf_1 : decode cX10_soonestOf 1 = .ok (.iload_n 2, 1) := by decide +kernel
theorem dX10_soonestOf_2 : decode cX10_soonestOf 2 = .ok (.iconst 0, 1) := by decide +kernel
theorem dX10_soonestOf_3 : decode cX10_soonestOf 3 = .ok (.invokevirtual 295, 3) := by decide +kernel
theorem dX10_soonestOf_6 : decode cX10_soonestOf 6 = .ok (.aload_n 0, 1) := by decide +kernel
theorem dX10_soonestOf_7 : decode cX10_soonestOf 7 = .ok (.iload_n 2, 1) := by decide +kernel
theorem dX10_soonestOf_8 : decode cX10_soonestOf 8 = .ok (.invokevirtual 302, 3) := by decide +kernel
theorem dX10_soonestOf_11 : decode cX10_soonestOf 11 = .ok (.aload_n 0, 1) := by decide +kernel
theorem dX10_soonestOf_12 : decode cX10_soonestOf 12 = .ok (.getfield 80, 3) := by decide +kernel
theorem dX10_soonestOf_15 : decode cX10_soonestOf 15 = .ok (.iload_n 1, 1) := by decide +kernel
theorem dX10_soonestOf_16 : decode cX10_soonestOf 16 = .ok (.iaload, 1) := by decide +kernel
theorem dX10_soonestOf_17 : decode cX10_soonestOf 17 = .ok (.ldc 248, 2) := by decide +kernel
theorem dX10_soonestOf_19 : decode cX10_soonestOf 19 = .ok (.if_icmp .lt 7, 3) := by decide +kernel
theorem dX10_soonestOf_22 : decode cX10_soonestOf 22 = .ok (.iconst (-1), 1) := by decide +kernel
theorem dX10_soonestOf_23 : decode cX10_soonestOf 23 = .ok (.goto 12, 3) := by decide +kernel
theorem dX10_soonestOf_26 : decode cX10_soonestOf 26 = .ok (.aload_n 0, 1) := by decide +kernel
theorem dX10_soonestOf_27 : decode cX10_soonestOf 27 = .ok (.getfield 80, 3) := by decide +kernel
theorem dX10_soonestOf_30 : decode cX10_soonestOf 30 = .ok (.iload_n 1, 1) := by decide +kernel
theorem dX10_soonestOf_31 : decode cX10_soonestOf 31 = .ok (.iaload, 1) := by decide +kernel
theorem dX10_soonestOf_32 : decode cX10_soonestOf 32 = .ok (.bipush 16, 2) := by decide +kernel
theorem dX10_soonestOf_34 : decode cX10_soonestOf 34 = .ok (.idiv, 1) := by decide +kernel
theorem dX10_soonestOf_35 : decode cX10_soonestOf 35 = .ok (.ireturn, 1) := by decide +kernel
theorem dX10_soonest_0 : decode cX10_soonest 0 = .ok (.aload_n 0, 1) := by decide +kernel
theorem dX10_soonest_1 : decode cX10_soonest 1 = .ok (.iload_n 1, 1) := by decide +kernel
theorem dX10_soonest_2 : decode cX10_soonest 2 = .ok (.invokevirtual 256, 3) := by decide +kernel
theorem dX10_soonest_5 : decode cX10_soonest 5 = .ok (.ifCond .eq 20, 3) := by decide +kernel
theorem dX10_soonest_8 : decode cX10_soonest 8 = .ok (.aload_n 0, 1) := by decide +kernel
theorem dX10_soonest_9 : decode cX10_soonest 9 = .ok (.iload_n 2, 1) := by decide +kernel
theorem dX10_soonest_10 : decode cX10_soonest 10 = .ok (.invokevirtual 256, 3) := by decide +kernel
theorem dX10_soonest_13 : decode cX10_soonest 13 = .ok (.ifCond .eq 12, 3) := by decide +kernel
theorem dX10_soonest_16 : decode cX10_soonest 16 = .ok (.aload_n 0, 1) := by decide +kernel
theorem dX10_soonest_17 : decode cX10_soonest 17 = .ok (.iload_n 1, 1) := by decide +kernel
theorem dX10_soonest_18 : decode cX10_soonest 18 = .ok (.iload_n 2, 1) := by decide +kernel
theorem dX10_soonest_19 : decode cX10_soonest 19 = .ok (.invokevirtual 306, 3) := by decide +kernel
theorem dX10_soonest_22 : decode cX10_soonest 22 = .ok (.goto 5, 3) := by decide +kernel
theorem dX10_soonest_25 : decode cX10_soonest 25 = .ok (.ldc 242, 2) := by decide +kernel
theorem dX10_soonest_27 : decode cX10_soonest 27 = .ok (.ireturn, 1) := by decide +kernel
theorem dX10_guide_0 : decode cX10_guide 0 = .ok (.aload_n 0, 1) := by decide +kernel
theorem dX10_guide_1 : decode cX10_guide 1 = .ok (.iload_n 1, 1) := by decide +kernel
theorem dX10_guide_2 : decode cX10_guide 2 = .ok (.invokevirtual 256, 3) := by decide +kernel
theorem dX10_guide_5 : decode cX10_guide 5 = .ok (.ifCond .eq 11, 3) := by decide +kernel
theorem dX10_guide_8 : decode cX10_guide 8 = .ok (.aload_n 0, 1) := by decide +kernel
theorem dX10_guide_9 : decode cX10_guide 9 = .ok (.iload_n 2, 1) := by decide +kernel
theorem dX10_guide_10 : decode cX10_guide 10 = .ok (.invokevirtual 256, 3) := by decide +kernel
theorem dX10_guide_13 : decode cX10_guide 13 = .ok (.ifCond .ne 6, 3) := by decide +kernel
theorem dX10_guide_16 : decode cX10_guide 16 = .ok (.ldc 242, 2) := by decide +kernel
theorem dX10_guide_18 : decode cX10_guide 18 = .ok (.ireturn, 1) := by decide +kernel
theorem dX10_guide_19 : decode cX10_guide 19 = .ok (.aload_n 0, 1) := by decide +kernel
theorem dX10_guide_20 : decode cX10_guide 20 = .ok (.iload_n 1, 1) := by decide +kernel
theorem dX10_guide_21 : decode cX10_guide 21 = .ok (.iload_n 2, 1) := by decide +kernel
theorem dX10_guide_22 : decode cX10_guide 22 = .ok (.invokevirtual 306, 3) := by decide +kernel
theorem dX10_guide_25 : decode cX10_guide 25 = .ok (.ifCond .ge 5, 3) := by decide +kernel
theorem dX10_guide_28 : decode cX10_guide 28 = .ok (.iconst (-1), 1) := by decide +kernel
theorem dX10_guide_29 : decode cX10_guide 29 = .ok (.ireturn, 1) := by decide +kernel
theorem dX10_guide_30 : decode cX10_guide 30 = .ok (.aload_n 0, 1) := by decide +kernel
theorem dX10_guide_31 : decode cX10_guide 31 = .ok (.getfield 80, 3) := by decide +kernel
theorem dX10_guide_34 : decode cX10_guide 34 = .ok (.iload_n 1, 1) := by decide +kernel
theorem dX10_guide_35 : decode cX10_guide 35 = .ok (.iaload, 1) := by decide +kernel
theorem dX10_guide_36 : decode cX10_guide 36 = .ok (.bipush 16, 2) := by decide +kernel
theorem dX10_guide_38 : decode cX10_guide 38 = .ok (.irem, 1) := by decide +kernel
theorem dX10_guide_39 : decode cX10_guide 39 = .ok (.istore 4, 2) := by decide +kernel
theorem dX10_guide_41 : decode cX10_guide 41 = .ok (.iload_n 3, 1) := by decide +kernel
theorem dX10_guide_42 : decode cX10_guide 42 = .ok (.iconst (-1), 1) := by decide +kernel
theorem dX10_guide_43 : decode cX10_guide 43 = .ok (.if_icmp .eq 17, 3) := by decide +kernel
theorem dX10_guide_46 : decode cX10_guide 46 = .ok (.iload_n 3, 1) := by decide +kernel
theorem dX10_guide_47 : decode cX10_guide 47 = .ok (.i2l, 1) := by decide +kernel
theorem dX10_guide_48 : decode cX10_guide 48 = .ok (.lconst 0, 1) := by decide +kernel
theorem dX10_guide_49 : decode cX10_guide 49 = .ok (.iload 4, 2) := by decide +kernel
theorem dX10_guide_51 : decode cX10_guide 51 = .ok (.iconst 1, 1) := by decide +kernel
theorem dX10_guide_52 : decode cX10_guide 52 = .ok (.isub, 1) := by decide +kernel
theorem dX10_guide_53 : decode cX10_guide 53 = .ok (.i2l, 1) := by decide +kernel
theorem dX10_guide_54 : decode cX10_guide 54 = .ok (.invokestatic 124, 3) := by decide +kernel
theorem dX10_guide_57 : decode cX10_guide 57 = .ok (.ifCond .ne 15, 3) := by decide +kernel
theorem dX10_guide_60 : decode cX10_guide 60 = .ok (.iload_n 3, 1) := by decide +kernel
theorem dX10_guide_61 : decode cX10_guide 61 = .ok (.iconst (-1), 1) := by decide +kernel
theorem dX10_guide_62 : decode cX10_guide 62 = .ok (.if_icmp .ne 8, 3) := by decide +kernel
theorem dX10_guide_65 : decode cX10_guide 65 = .ok (.iload 4, 2) := by decide +kernel
theorem dX10_guide_67 : decode cX10_guide 67 = .ok (.goto 4, 3) := by decide +kernel
theorem dX10_guide_70 : decode cX10_guide 70 = .ok (.iconst (-1), 1) := by decide +kernel
theorem dX10_guide_71 : decode cX10_guide 71 = .ok (.ireturn, 1) := by decide +kernel
theorem dX10_guide_72 : decode cX10_guide 72 = .ok (.iload_n 1, 1) := by decide +kernel
theorem dX10_guide_73 : decode cX10_guide 73 = .ok (.istore 5, 2) := by decide +kernel
theorem dX10_guide_75 : decode cX10_guide 75 = .ok (.iconst 0, 1) := by decide +kernel
theorem dX10_guide_76 : decode cX10_guide 76 = .ok (.istore 6, 2) := by decide +kernel
theorem dX10_guide_78 : decode cX10_guide 78 = .ok (.iconst (-1), 1) := by decide +kernel
theorem dX10_guide_79 : decode cX10_guide 79 = .ok (.istore 7, 2) := by decide +kernel
theorem dX10_guide_81 : decode cX10_guide 81 = .ok (.iconst 0, 1) := by decide +kernel
theorem dX10_guide_82 : decode cX10_guide 82 = .ok (.istore 8, 2) := by decide +kernel
theorem dX10_guide_84 : decode cX10_guide 84 = .ok (.iload 8, 2) := by decide +kernel
theorem dX10_guide_86 : decode cX10_guide 86 = .ok (.iload_n 3, 1) := by decide +kernel
theorem dX10_guide_87 : decode cX10_guide 87 = .ok (.if_icmp .gt 101, 3) := by decide +kernel
theorem dX10_guide_90 : decode cX10_guide 90 = .ok (.iconst 0, 1) := by decide +kernel
theorem dX10_guide_91 : decode cX10_guide 91 = .ok (.istore 7, 2) := by decide +kernel
theorem dX10_guide_93 : decode cX10_guide 93 = .ok (.aload_n 0, 1) := by decide +kernel
theorem dX10_guide_94 : decode cX10_guide 94 = .ok (.iload 7, 2) := by decide +kernel
theorem dX10_guide_96 : decode cX10_guide 96 = .ok (.iload 6, 2) := by decide +kernel
theorem dX10_guide_98 : decode cX10_guide 98 = .ok (.iload 5, 2) := by decide +kernel
theorem dX10_guide_100 : decode cX10_guide 100 = .ok (.invokevirtual 299, 3) := by decide +kernel
theorem dX10_guide_103 : decode cX10_guide 103 = .ok (.ifCond .eq 55, 3) := by decide +kernel
theorem dX10_guide_106 : decode cX10_guide 106 = .ok (.aload_n 0, 1) := by decide +kernel
theorem dX10_guide_107 : decode cX10_guide 107 = .ok (.getfield 80, 3) := by decide +kernel
theorem dX10_guide_110 : decode cX10_guide 110 = .ok (.bipush 10, 2) := by decide +kernel
theorem dX10_guide_112 : decode cX10_guide 112 = .ok (.iload 6, 2) := by decide +kernel
theorem dX10_guide_114 : decode cX10_guide 114 = .ok (.iconst 1, 1) := by decide +kernel
theorem dX10_guide_115 : decode cX10_guide 115 = .ok (.iload 7, 2) := by decide +kernel
theorem dX10_guide_117 : decode cX10_guide 117 = .ok (.ishl, 1) := by decide +kernel
theorem dX10_guide_118 : decode cX10_guide 118 = .ok (.ior, 1) := by decide +kernel
theorem dX10_guide_119 : decode cX10_guide 119 = .ok (.imul, 1) := by decide +kernel
theorem dX10_guide_120 : decode cX10_guide 120 = .ok (.aload_n 0, 1) := by decide +kernel
theorem dX10_guide_121 : decode cX10_guide 121 = .ok (.getfield 74, 3) := by decide +kernel
theorem dX10_guide_124 : decode cX10_guide 124 = .ok (.iload 7, 2) := by decide +kernel
theorem dX10_guide_126 : decode cX10_guide 126 = .ok (.iaload, 1) := by decide +kernel
theorem dX10_guide_127 : decode cX10_guide 127 = .ok (.iadd, 1) := by decide +kernel
theorem dX10_guide_128 : decode cX10_guide 128 = .ok (.iaload, 1) := by decide +kernel
theorem dX10_guide_129 : decode cX10_guide 129 = .ok (.bipush 16, 2) := by decide +kernel
theorem dX10_guide_131 : decode cX10_guide 131 = .ok (.aload_n 0, 1) := by decide +kernel
theorem dX10_guide_132 : decode cX10_guide 132 = .ok (.getfield 77, 3) := by decide +kernel
theorem dX10_guide_135 : decode cX10_guide 135 = .ok (.iload 7, 2) := by decide +kernel
theorem dX10_guide_137 : decode cX10_guide 137 = .ok (.iaload, 1) := by decide +kernel
theorem dX10_guide_138 : decode cX10_guide 138 = .ok (.imul, 1) := by decide +kernel
theorem dX10_guide_139 : decode cX10_guide 139 = .ok (.iadd, 1) := by decide +kernel
theorem dX10_guide_140 : decode cX10_guide 140 = .ok (.iconst 1, 1) := by decide +kernel
theorem dX10_guide_141 : decode cX10_guide 141 = .ok (.iadd, 1) := by decide +kernel
theorem dX10_guide_142 : decode cX10_guide 142 = .ok (.aload_n 0, 1) := by decide +kernel
theorem dX10_guide_143 : decode cX10_guide 143 = .ok (.getfield 80, 3) := by decide +kernel
theorem dX10_guide_146 : decode cX10_guide 146 = .ok (.bipush 10, 2) := by decide +kernel
theorem dX10_guide_148 : decode cX10_guide 148 = .ok (.iload 6, 2) := by decide +kernel
theorem dX10_guide_150 : decode cX10_guide 150 = .ok (.imul, 1) := by decide +kernel
theorem dX10_guide_151 : decode cX10_guide 151 = .ok (.iload 5, 2) := by decide +kernel
theorem dX10_guide_153 : decode cX10_guide 153 = .ok (.iadd, 1) := by decide +kernel
theorem dX10_guide_154 : decode cX10_guide 154 = .ok (.iaload, 1) := by decide +kernel
theorem dX10_guide_155 : decode cX10_guide 155 = .ok (.if_icmp .eq 9, 3) := by decide +kernel
theorem dX10_guide_158 : decode cX10_guide 158 = .ok (.iinc 7 1, 3) := by decide +kernel
theorem dX10_guide_161 : decode cX10_guide 161 = .ok (.goto (-68), 3) := by decide +kernel
theorem dX10_guide_164 : decode cX10_guide 164 = .ok (.iload 6, 2) := by decide +kernel
theorem dX10_guide_166 : decode cX10_guide 166 = .ok (.iconst 1, 1) := by decide +kernel
theorem dX10_guide_167 : decode cX10_guide 167 = .ok (.iload 7, 2) := by decide +kernel
theorem dX10_guide_169 : decode cX10_guide 169 = .ok (.ishl, 1) := by decide +kernel
theorem dX10_guide_170 : decode cX10_guide 170 = .ok (.ior, 1) := by decide +kernel
theorem dX10_guide_171 : decode cX10_guide 171 = .ok (.istore 6, 2) := by decide +kernel
theorem dX10_guide_173 : decode cX10_guide 173 = .ok (.aload_n 0, 1) := by decide +kernel
theorem dX10_guide_174 : decode cX10_guide 174 = .ok (.getfield 74, 3) := by decide +kernel
theorem dX10_guide_177 : decode cX10_guide 177 = .ok (.iload 7, 2) := by decide +kernel
theorem dX10_guide_179 : decode cX10_guide 179 = .ok (.iaload, 1) := by decide +kernel
theorem dX10_guide_180 : decode cX10_guide 180 = .ok (.istore 5, 2) := by decide +kernel
theorem dX10_guide_182 : decode cX10_guide 182 = .ok (.iinc 8 1, 3) := by decide +kernel
theorem dX10_guide_185 : decode cX10_guide 185 = .ok (.goto (-101), 3) := by decide +kernel
theorem dX10_guide_188 : decode cX10_guide 188 = .ok (.iload 7, 2) := by decide +kernel
theorem dX10_guide_190 : decode cX10_guide 190 = .ok (.ireturn, 1) := by decide +kernel
theorem dX10_addLot_0 : decode cX10_addLot 0 = .ok (.aload_n 0, 1) := by decide +kernel
theorem dX10_addLot_1 : decode cX10_addLot 1 = .ok (.getfield 83, 3) := by decide +kernel
theorem dX10_addLot_4 : decode cX10_addLot 4 = .ok (.aload_n 0, 1) := by decide +kernel
theorem dX10_addLot_5 : decode cX10_addLot 5 = .ok (.getfield 309, 3) := by decide +kernel
theorem dX10_addLot_8 : decode cX10_addLot 8 = .ok (.iload_n 1, 1) := by decide +kernel
theorem dX10_addLot_9 : decode cX10_addLot 9 = .ok (.iastore, 1) := by decide +kernel
theorem dX10_addLot_10 : decode cX10_addLot 10 = .ok (.aload_n 0, 1) := by decide +kernel
theorem dX10_addLot_11 : decode cX10_addLot 11 = .ok (.getfield 86, 3) := by decide +kernel
theorem dX10_addLot_14 : decode cX10_addLot 14 = .ok (.aload_n 0, 1) := by decide +kernel
theorem dX10_addLot_15 : decode cX10_addLot 15 = .ok (.getfield 309, 3) := by decide +kernel
theorem dX10_addLot_18 : decode cX10_addLot 18 = .ok (.iload_n 2, 1) := by decide +kernel
theorem dX10_addLot_19 : decode cX10_addLot 19 = .ok (.iastore, 1) := by decide +kernel
theorem dX10_addLot_20 : decode cX10_addLot 20 = .ok (.aload_n 0, 1) := by decide +kernel
theorem dX10_addLot_21 : decode cX10_addLot 21 = .ok (.getfield 89, 3) := by decide +kernel
theorem dX10_addLot_24 : decode cX10_addLot 24 = .ok (.aload_n 0, 1) := by decide +kernel
theorem dX10_addLot_25 : decode cX10_addLot 25 = .ok (.getfield 309, 3) := by decide +kernel
theorem dX10_addLot_28 : decode cX10_addLot 28 = .ok (.iload_n 3, 1) := by decide +kernel
theorem dX10_addLot_29 : decode cX10_addLot 29 = .ok (.iastore, 1) := by decide +kernel
theorem dX10_addLot_30 : decode cX10_addLot 30 = .ok (.aload_n 0, 1) := by decide +kernel
theorem dX10_addLot_31 : decode cX10_addLot 31 = .ok (.getfield 92, 3) := by decide +kernel
theorem dX10_addLot_34 : decode cX10_addLot 34 = .ok (.aload_n 0, 1) := by decide +kernel
theorem dX10_addLot_35 : decode cX10_addLot 35 = .ok (.getfield 309, 3) := by decide +kernel
theorem dX10_addLot_38 : decode cX10_addLot 38 = .ok (.lload 4, 2) := by decide +kernel
theorem dX10_addLot_40 : decode cX10_addLot 40 = .ok (.lastore, 1) := by decide +kernel
theorem dX10_addLot_41 : decode cX10_addLot 41 = .ok (.aload_n 0, 1) := by decide +kernel
theorem dX10_addLot_42 : decode cX10_addLot 42 = .ok (.dup, 1) := by decide +kernel
theorem dX10_addLot_43 : decode cX10_addLot 43 = .ok (.getfield 309, 3) := by decide +kernel
theorem dX10_addLot_46 : decode cX10_addLot 46 = .ok (.iconst 1, 1) := by decide +kernel
theorem dX10_addLot_47 : decode cX10_addLot 47 = .ok (.iadd, 1) := by decide +kernel
theorem dX10_addLot_48 : decode cX10_addLot 48 = .ok (.putfield 309, 3) := by decide +kernel
theorem dX10_addLot_51 : decode cX10_addLot 51 = .ok (.return_, 1) := by decide +kernel
theorem dX10_countLeads_0 : decode cX10_countLeads 0 = .ok (.iconst 0, 1) := by decide +kernel
theorem dX10_countLeads_1 : decode cX10_countLeads 1 = .ok (.istore_n 3, 1) := by decide +kernel
theorem dX10_countLeads_2 : decode cX10_countLeads 2 = .ok (.iconst 0, 1) := by decide +kernel
theorem dX10_countLeads_3 : decode cX10_countLeads 3 = .ok (.istore 4, 2) := by decide +kernel
theorem dX10_countLeads_5 : decode cX10_countLeads 5 = .ok (.iload 4, 2) := by decide +kernel
theorem dX10_countLeads_7 : decode cX10_countLeads 7 = .ok (.aload_n 0, 1) := by decide +kernel
theorem dX10_countLeads_8 : decode cX10_countLeads 8 = .ok (.getfield 131, 3) := by decide +kernel
theorem dX10_countLeads_11 : decode cX10_countLeads 11 = .ok (.if_icmp .ge 28, 3) := by decide +kernel
theorem dX10_countLeads_14 : decode cX10_countLeads 14 = .ok (.iload_n 3, 1) := by decide +kernel
theorem dX10_countLeads_15 : decode cX10_countLeads 15 = .ok (.aload_n 0, 1) := by decide +kernel
theorem dX10_countLeads_16 : decode cX10_countLeads 16 = .ok (.iload 4, 2) := by decide +kernel
theorem dX10_countLeads_18 : decode cX10_countLeads 18 = .ok (.iload_n 1, 1) := by decide +kernel
theorem dX10_countLeads_19 : decode cX10_countLeads 19 = .ok (.iload_n 2, 1) := by decide +kernel
theorem dX10_countLeads_20 : decode cX10_countLeads 20 = .ok (.invokevirtual 299, 3) := by decide +kernel
theorem dX10_countLeads_23 : decode cX10_countLeads 23 = .ok (.ifCond .eq 7, 3) := by decide +kernel
theorem dX10_countLeads_26 : decode cX10_countLeads 26 = .ok (.iconst 1, 1) := by decide +kernel
theorem dX10_countLeads_27 : decode cX10_countLeads 27 = .ok (.goto 4, 3) := by decide +kernel
theorem dX10_countLeads_30 : decode cX10_countLeads 30 = .ok (.iconst 0, 1) := by decide +kernel
theorem dX10_countLeads_31 : decode cX10_countLeads 31 = .ok (.iadd, 1) := by decide +kernel
theorem dX10_countLeads_32 : decode cX10_countLeads 32 = .ok (.istore_n 3, 1) := by decide +kernel
theorem dX10_countLeads_33 : decode cX10_countLeads 33 = .ok (.iinc 4 1, 3) := by decide +kernel
theorem dX10_countLeads_36 : decode cX10_countLeads 36 = .ok (.goto (-31), 3) := by decide +kernel
theorem dX10_countLeads_39 : decode cX10_countLeads 39 = .ok (.iload_n 3, 1) := by decide +kernel
theorem dX10_countLeads_40 : decode cX10_countLeads 40 = .ok (.ireturn, 1) := by decide +kernel
theorem dX10_lot_0 : decode cX10_lot 0 = .ok (.aload_n 0, 1) := by decide +kernel
theorem dX10_lot_1 : decode cX10_lot 1 = .ok (.iload_n 1, 1) := by decide +kernel
theorem dX10_lot_2 : decode cX10_lot 2 = .ok (.invokevirtual 256, 3) := by decide +kernel
theorem dX10_lot_5 : decode cX10_lot 5 = .ok (.ifCond .eq 11, 3) := by decide +kernel
theorem dX10_lot_8 : decode cX10_lot 8 = .ok (.aload_n 0, 1) := by decide +kernel
theorem dX10_lot_9 : decode cX10_lot 9 = .ok (.iload_n 2, 1) := by decide +kernel
theorem dX10_lot_10 : decode cX10_lot 10 = .ok (.invokevirtual 256, 3) := by decide +kernel
theorem dX10_lot_13 : decode cX10_lot 13 = .ok (.ifCond .ne 6, 3) := by decide +kernel
theorem dX10_lot_16 : decode cX10_lot 16 = .ok (.ldc 242, 2) := by decide +kernel
theorem dX10_lot_18 : decode cX10_lot 18 = .ok (.ireturn, 1) := by decide +kernel
theorem dX10_lot_19 : decode cX10_lot 19 = .ok (.iload_n 3, 1) := by decide +kernel
theorem dX10_lot_20 : decode cX10_lot 20 = .ok (.i2l, 1) := by decide +kernel
theorem dX10_lot_21 : decode cX10_lot 21 = .ok (.lconst 0, 1) := by decide +kernel
theorem dX10_lot_22 : decode cX10_lot 22 = .ok (.ldc2_w 312, 3) := by decide +kernel
theorem dX10_lot_25 : decode cX10_lot 25 = .ok (.invokestatic 124, 3) := by decide +kernel
theorem dX10_lot_28 : decode cX10_lot 28 = .ok (.ifCond .ne 6, 3) := by decide +kernel
theorem dX10_lot_31 : decode cX10_lot 31 = .ok (.ldc 136, 2) := by decide +kernel
theorem dX10_lot_33 : decode cX10_lot 33 = .ok (.ireturn, 1) := by decide +kernel
theorem dX10_lot_34 : decode cX10_lot 34 = .ok (.aload_n 0, 1) := by decide +kernel
theorem dX10_lot_35 : decode cX10_lot 35 = .ok (.iload_n 2, 1) := by decide +kernel
theorem dX10_lot_36 : decode cX10_lot 36 = .ok (.iconst 0, 1) := by decide +kernel
theorem dX10_lot_37 : decode cX10_lot 37 = .ok (.invokevirtual 295, 3) := by decide +kernel
theorem dX10_lot_40 : decode cX10_lot 40 = .ok (.aload_n 0, 1) := by decide +kernel
theorem dX10_lot_41 : decode cX10_lot 41 = .ok (.iconst 0, 1) := by decide +kernel
theorem dX10_lot_42 : decode cX10_lot 42 = .ok (.putfield 309, 3) := by decide +kernel
theorem dX10_lot_45 : decode cX10_lot 45 = .ok (.aload_n 0, 1) := by decide +kernel
theorem dX10_lot_46 : decode cX10_lot 46 = .ok (.iload_n 1, 1) := by decide +kernel
theorem dX10_lot_47 : decode cX10_lot 47 = .ok (.iconst 0, 1) := by decide +kernel
theorem dX10_lot_48 : decode cX10_lot 48 = .ok (.iconst 0, 1) := by decide +kernel
theorem dX10_lot_49 : decode cX10_lot 49 = .ok (.ldc2_w 314, 3) := by decide +kernel
theorem dX10_lot_52 : decode cX10_lot 52 = .ok (.invokevirtual 316, 3) := by decide +kernel
theorem dX10_lot_55 : decode cX10_lot 55 = .ok (.lconst 0, 1) := by decide +kernel
theorem dX10_lot_56 : decode cX10_lot 56 = .ok (.lstore 4, 2) := by decide +kernel
theorem dX10_lot_58 : decode cX10_lot 58 = .ok (.lconst 0, 1) := by decide +kernel
theorem dX10_lot_59 : decode cX10_lot 59 = .ok (.lstore 6, 2) := by decide +kernel
theorem dX10_lot_61 : decode cX10_lot 61 = .ok (.iconst (-1), 1) := by decide +kernel
theorem dX10_lot_62 : decode cX10_lot 62 = .ok (.istore 8, 2) := by decide +kernel
theorem dX10_lot_64 : decode cX10_lot 64 = .ok (.iconst 0, 1) := by decide +kernel
theorem dX10_lot_65 : decode cX10_lot 65 = .ok (.istore 9, 2) := by decide +kernel
theorem dX10_lot_67 : decode cX10_lot 67 = .ok (.iload 9, 2) := by decide +kernel
theorem dX10_lot_69 : decode cX10_lot 69 = .ok (.aload_n 0, 1) := by decide +kernel
theorem dX10_lot_70 : decode cX10_lot 70 = .ok (.getfield 309, 3) := by decide +kernel
theorem dX10_lot_73 : decode cX10_lot 73 = .ok (.if_icmp .ge 238, 3) := by decide +kernel
theorem dX10_lot_76 : decode cX10_lot 76 = .ok (.aload_n 0, 1) := by decide +kernel
theorem dX10_lot_77 : decode cX10_lot 77 = .ok (.aload_n 0, 1) := by decide +kernel
theorem dX10_lot_78 : decode cX10_lot 78 = .ok (.getfield 86, 3) := by decide +kernel
theorem dX10_lot_81 : decode cX10_lot 81 = .ok (.iload 9, 2) := by decide +kernel
theorem dX10_lot_83 : decode cX10_lot 83 = .ok (.iaload, 1) := by decide +kernel
theorem dX10_lot_84 : decode cX10_lot 84 = .ok (.aload_n 0, 1) := by decide +kernel
theorem dX10_lot_85 : decode cX10_lot 85 = .ok (.getfield 83, 3) := by decide +kernel
theorem dX10_lot_88 : decode cX10_lot 88 = .ok (.iload 9, 2) := by decide +kernel
theorem dX10_lot_90 : decode cX10_lot 90 = .ok (.iaload, 1) := by decide +kernel
theorem dX10_lot_91 : decode cX10_lot 91 = .ok (.invokevirtual 320, 3) := by decide +kernel
theorem dX10_lot_94 : decode cX10_lot 94 = .ok (.istore 10, 2) := by decide +kernel
theorem dX10_lot_96 : decode cX10_lot 96 = .ok (.aload_n 0, 1) := by decide +kernel
theorem dX10_lot_97 : decode cX10_lot 97 = .ok (.getfield 83, 3) := by decide +kernel
theorem dX10_lot_100 : decode cX10_lot 100 = .ok (.iload 9, 2) := by decide +kernel
theorem dX10_lot_102 : decode cX10_lot 102 = .ok (.iaload, 1) := by decide +kernel
theorem dX10_lot_103 : decode cX10_lot 103 = .ok (.iload_n 2, 1) := by decide +kernel
theorem dX10_lot_104 : decode cX10_lot 104 = .ok (.if_icmp .ne 53, 3) := by decide +kernel
theorem dX10_lot_107 : decode cX10_lot 107 = .ok (.aload_n 0, 1) := by decide +kernel
theorem dX10_lot_108 : decode cX10_lot 108 = .ok (.getfield 89, 3) := by decide +kernel
theorem dX10_lot_111 : decode cX10_lot 111 = .ok (.iload 9, 2) := by decide +kernel
theorem dX10_lot_113 : decode cX10_lot 113 = .ok (.iaload, 1) := by decide +kernel
theorem dX10_lot_114 : decode cX10_lot 114 = .ok (.iload 8, 2) := by decide +kernel
theorem dX10_lot_116 : decode cX10_lot 116 = .ok (.if_icmp .le 13, 3) := by decide +kernel
theorem dX10_lot_119 : decode cX10_lot 119 = .ok (.aload_n 0, 1) := by decide +kernel
theorem dX10_lot_120 : decode cX10_lot 120 = .ok (.getfield 89, 3) := by decide +kernel
theorem dX10_lot_123 : decode cX10_lot 123 = .ok (.iload 9, 2) := by decide +kernel
theorem dX10_lot_125 : decode cX10_lot 125 = .ok (.iaload, 1) := by decide +kernel
theorem dX10_lot_126 : decode cX10_lot 126 = .ok (.goto 5, 3) := by decide +kernel
theorem dX10_lot_129 : decode cX10_lot 129 = .ok (.iload 8, 2) := by decide +kernel
theorem dX10_lot_131 : decode cX10_lot 131 = .ok (.istore 8, 2) := by decide +kernel
theorem dX10_lot_133 : decode cX10_lot 133 = .ok (.lload 6, 2) := by decide +kernel
theorem dX10_lot_135 : decode cX10_lot 135 = .ok (.aload_n 0, 1) := by decide +kernel
theorem dX10_lot_136 : decode cX10_lot 136 = .ok (.getfield 92, 3) := by decide +kernel
theorem dX10_lot_139 : decode cX10_lot 139 = .ok (.iload 9, 2) := by decide +kernel
theorem dX10_lot_141 : decode cX10_lot 141 = .ok (.laload, 1) := by decide +kernel
theorem dX10_lot_142 : decode cX10_lot 142 = .ok (.aload_n 0, 1) := by decide +kernel
theorem dX10_lot_143 : decode cX10_lot 143 = .ok (.getfield 89, 3) := by decide +kernel
theorem dX10_lot_146 : decode cX10_lot 146 = .ok (.iload 9, 2) := by decide +kernel
theorem dX10_lot_148 : decode cX10_lot 148 = .ok (.iaload, 1) := by decide +kernel
theorem dX10_lot_149 : decode cX10_lot 149 = .ok (.i2l, 1) := by decide +kernel
theorem dX10_lot_150 : decode cX10_lot 150 = .ok (.lmul, 1) := by decide +kernel
theorem dX10_lot_151 : decode cX10_lot 151 = .ok (.ladd, 1) := by decide +kernel
theorem dX10_lot_152 : decode cX10_lot 152 = .ok (.lstore 6, 2) := by decide +kernel
theorem dX10_lot_154 : decode cX10_lot 154 = .ok (.goto 151, 3) := by decide +kernel
theorem dX10_lot_157 : decode cX10_lot 157 = .ok (.iload 10, 2) := by decide +kernel
theorem dX10_lot_159 : decode cX10_lot 159 = .ok (.ifCond .ne 18, 3) := by decide +kernel
theorem dX10_lot_162 : decode cX10_lot 162 = .ok (.lload 4, 2) := by decide +kernel
theorem dX10_lot_164 : decode cX10_lot 164 = .ok (.aload_n 0, 1) := by decide +kernel
theorem dX10_lot_165 : decode cX10_lot 165 = .ok (.getfield 92, 3) := by decide +kernel
theorem dX10_lot_168 : decode cX10_lot 168 = .ok (.iload 9, 2) := by decide +kernel
theorem dX10_lot_170 : decode cX10_lot 170 = .ok (.laload, 1) := by decide +kernel
theorem dX10_lot_171 : decode cX10_lot 171 = .ok (.ladd, 1) := by decide +kernel
theorem dX10_lot_172 : decode cX10_lot 172 = .ok (.lstore 4, 2) := by decide +kernel
theorem dX10_lot_174 : decode cX10_lot 174 = .ok (.goto 131, 3) := by decide +kernel
theorem dX10_lot_177 : decode cX10_lot 177 = .ok (.aload_n 0, 1) := by decide +kernel
theorem dX10_lot_178 : decode cX10_lot 178 = .ok (.getfield 92, 3) := by decide +kernel
theorem dX10_lot_181 : decode cX10_lot 181 = .ok (.iload 9, 2) := by decide +kernel
theorem dX10_lot_183 : decode cX10_lot 183 = .ok (.laload, 1) := by decide +kernel
theorem dX10_lot_184 : decode cX10_lot 184 = .ok (.lstore 11, 2) := by decide +kernel
theorem dX10_lot_186 : decode cX10_lot 186 = .ok (.iconst 0, 1) := by decide +kernel
theorem dX10_lot_187 : decode cX10_lot 187 = .ok (.istore 13, 2) := by decide +kernel
theorem dX10_lot_189 : decode cX10_lot 189 = .ok (.iconst 0, 1) := by decide +kernel
theorem dX10_lot_190 : decode cX10_lot 190 = .ok (.istore 14, 2) := by decide +kernel
theorem dX10_lot_192 : decode cX10_lot 192 = .ok (.iload 14, 2) := by decide +kernel
theorem dX10_lot_194 : decode cX10_lot 194 = .ok (.aload_n 0, 1) := by decide +kernel
theorem dX10_lot_195 : decode cX10_lot 195 = .ok (.getfield 131, 3) := by decide +kernel
theorem dX10_lot_198 : decode cX10_lot 198 = .ok (.if_icmp .ge 107, 3) := by decide +kernel
theorem dX10_lot_201 : decode cX10_lot 201 = .ok (.aload_n 0, 1) := by decide +kernel
theorem dX10_lot_202 : decode cX10_lot 202 = .ok (.iload 14, 2) := by decide +kernel
theorem dX10_lot_204 : decode cX10_lot 204 = .ok (.aload_n 0, 1) := by decide +kernel
theorem dX10_lot_205 : decode cX10_lot 205 = .ok (.getfield 86, 3) := by decide +kernel
theorem dX10_lot_208 : decode cX10_lot 208 = .ok (.iload 9, 2) := by decide +kernel
theorem dX10_lot_210 : decode cX10_lot 210 = .ok (.iaload, 1) := by decide +kernel
theorem dX10_lot_211 : decode cX10_lot 211 = .ok (.aload_n 0, 1) := by decide +kernel
theorem dX10_lot_212 : decode cX10_lot 212 = .ok (.getfield 83, 3) := by decide +kernel
theorem dX10_lot_215 : decode cX10_lot 215 = .ok (.iload 9, 2) := by decide +kernel
theorem dX10_lot_217 : decode cX10_lot 217 = .ok (.iaload, 1) := by decide +kernel
theorem dX10_lot_218 : decode cX10_lot 218 = .ok (.invokevirtual 299, 3) := by decide +kernel
theorem dX10_lot_221 : decode cX10_lot 221 = .ok (.ifCond .eq 78, 3) := by decide +kernel
theorem dX10_lot_224 : decode cX10_lot 224 = .ok (.iinc 13 1, 3) := by decide +kernel
theorem dX10_lot_227 : decode cX10_lot 227 = .ok (.iload 13, 2) := by decide +kernel
theorem dX10_lot_229 : decode cX10_lot 229 = .ok (.iload 10, 2) := by decide +kernel
theorem dX10_lot_231 : decode cX10_lot 231 = .ok (.if_icmp .ne 8, 3) := by decide +kernel
theorem dX10_lot_234 : decode cX10_lot 234 = .ok (.lload 11, 2) := by decide +kernel
theorem dX10_lot_236 : decode cX10_lot 236 = .ok (.goto 14, 3) := by decide +kernel
theorem dX10_lot_239 : decode cX10_lot 239 = .ok (.aload_n 0, 1) := by decide +kernel
theorem dX10_lot_240 : decode cX10_lot 240 = .ok (.getfield 92, 3) := by decide +kernel
theorem dX10_lot_243 : decode cX10_lot 243 = .ok (.iload 9, 2) := by decide +kernel
theorem dX10_lot_245 : decode cX10_lot 245 = .ok (.laload, 1) := by decide +kernel
theorem dX10_lot_246 : decode cX10_lot 246 = .ok (.iload 10, 2) := by decide +kernel
theorem dX10_lot_248 : decode cX10_lot 248 = .ok (.i2l, 1) := by decide +kernel
theorem dX10_lot_249 : decode cX10_lot 249 = .ok (.ldiv, 1) := by decide +kernel
theorem dX10_lot_250 : decode cX10_lot 250 = .ok (.lstore 15, 2) := by decide +kernel
theorem dX10_lot_252 : decode cX10_lot 252 = .ok (.lload 11, 2) := by decide +kernel
theorem dX10_lot_254 : decode cX10_lot 254 = .ok (.lload 15, 2) := by decide +kernel
theorem dX10_lot_256 : decode cX10_lot 256 = .ok (.lsub, 1) := by decide +kernel
theorem dX10_lot_257 : decode cX10_lot 257 = .ok (.lstore 11, 2) := by decide +kernel
theorem dX10_lot_259 : decode cX10_lot 259 = .ok (.aload_n 0, 1) := by decide +kernel
theorem dX10_lot_260 : decode cX10_lot 260 = .ok (.aload_n 0, 1) := by decide +kernel
theorem dX10_lot_261 : decode cX10_lot 261 = .ok (.getfield 74, 3) := by decide +kernel
theorem dX10_lot_264 : decode cX10_lot 264 = .ok (.iload 14, 2) := by decide +kernel
theorem dX10_lot_266 : decode cX10_lot 266 = .ok (.iaload, 1) := by decide +kernel
theorem dX10_lot_267 : decode cX10_lot 267 = .ok (.aload_n 0, 1) := by decide +kernel
theorem dX10_lot_268 : decode cX10_lot 268 = .ok (.getfield 86, 3) := by decide +kernel
theorem dX10_lot_271 : decode cX10_lot 271 = .ok (.iload 9, 2) := by decide +kernel
theorem dX10_lot_273 : decode cX10_lot 273 = .ok (.iaload, 1) := by decide +kernel
theorem dX10_lot_274 : decode cX10_lot 274 = .ok (.iconst 1, 1) := by decide +kernel
theorem dX10_lot_275 : decode cX10_lot 275 = .ok (.iload 14, 2) := by decide +kernel
theorem dX10_lot_277 : decode cX10_lot 277 = .ok (.ishl, 1) := by decide +kernel
theorem dX10_lot_278 : decode cX10_lot 278 = .ok (.ior, 1) := by decide +kernel
theorem dX10_lot_279 : decode cX10_lot 279 = .ok (.aload_n 0, 1) := by decide +kernel
theorem dX10_lot_280 : decode cX10_lot 280 = .ok (.getfield 89, 3) := by decide +kernel
theorem dX10_lot_283 : decode cX10_lot 283 = .ok (.iload 9, 2) := by decide +kernel
theorem dX10_lot_285 : decode cX10_lot 285 = .ok (.iaload, 1) := by decide +kernel
theorem dX10_lot_286 : decode cX10_lot 286 = .ok (.aload_n 0, 1) := by decide +kernel
theorem dX10_lot_287 : decode cX10_lot 287 = .ok (.getfield 77, 3) := by decide +kernel
theorem dX10_lot_290 : decode cX10_lot 290 = .ok (.iload 14, 2) := by decide +kernel
theorem dX10_lot_292 : decode cX10_lot 292 = .ok (.iaload, 1) := by decide +kernel
theorem dX10_lot_293 : decode cX10_lot 293 = .ok (.iadd, 1) := by decide +kernel
theorem dX10_lot_294 : decode cX10_lot 294 = .ok (.lload 15, 2) := by decide +kernel
theorem dX10_lot_296 : decode cX10_lot 296 = .ok (.invokevirtual 316, 3) := by decide +kernel
theorem dX10_lot_299 : decode cX10_lot 299 = .ok (.iinc 14 1, 3) := by decide +kernel
theorem dX10_lot_302 : decode cX10_lot 302 = .ok (.goto (-110), 3) := by decide +kernel
theorem dX10_lot_305 : decode cX10_lot 305 = .ok (.iinc 9 1, 3) := by decide +kernel
theorem dX10_lot_308 : decode cX10_lot 308 = .ok (.goto (-241), 3) := by decide +kernel
theorem dX10_lot_311 : decode cX10_lot 311 = .ok (.iload_n 3, 1) := by decide +kernel
theorem dX10_lot_312 : decode cX10_lot 312 = .ok (.ifCond .ne 9, 3) := by decide +kernel
theorem dX10_lot_315 : decode cX10_lot 315 = .ok (.lload 4, 2) := by decide +kernel
theorem dX10_lot_317 : decode cX10_lot 317 = .ok (.l2i, 1) := by decide +kernel
theorem dX10_lot_318 : decode cX10_lot 318 = .ok (.goto 20, 3) := by decide +kernel
theorem dX10_lot_321 : decode cX10_lot 321 = .ok (.iload_n 3, 1) := by decide +kernel
theorem dX10_lot_322 : decode cX10_lot 322 = .ok (.iconst 1, 1) := by decide +kernel
theorem dX10_lot_323 : decode cX10_lot 323 = .ok (.if_icmp .ne 8, 3) := by decide +kernel
theorem dX10_lot_326 : decode cX10_lot 326 = .ok (.iload 8, 2) := by decide +kernel
theorem dX10_lot_328 : decode cX10_lot 328 = .ok (.goto 10, 3) := by decide +kernel
theorem dX10_lot_331 : decode cX10_lot 331 = .ok (.lload 6, 2) := by decide +kernel
theorem dX10_lot_333 : decode cX10_lot 333 = .ok (.ldc2_w 323, 3) := by decide +kernel
theorem dX10_lot_336 : decode cX10_lot 336 = .ok (.ldiv, 1) := by decide +kernel
theorem dX10_lot_337 : decode cX10_lot 337 = .ok (.l2i, 1) := by decide +kernel
theorem dX10_lot_338 : decode cX10_lot 338 = .ok (.ireturn, 1) := by decide +kernel
theorem dX10_say_0 : decode cX10_say 0 = .ok (.aload_n 0, 1) := by decide +kernel
theorem dX10_say_1 : decode cX10_say 1 = .ok (.iload_n 1, 1) := by decide +kernel
theorem dX10_say_2 : decode cX10_say 2 = .ok (.invokevirtual 256, 3) := by decide +kernel
theorem dX10_say_5 : decode cX10_say 5 = .ok (.ifCond .eq 11, 3) := by decide +kernel
theorem dX10_say_8 : decode cX10_say 8 = .ok (.aload_n 0, 1) := by decide +kernel
theorem dX10_say_9 : decode cX10_say 9 = .ok (.iload_n 2, 1) := by decide +kernel
theorem dX10_say_10 : decode cX10_say 10 = .ok (.invokevirtual 256, 3) := by decide +kernel
theorem dX10_say_13 : decode cX10_say 13 = .ok (.ifCond .ne 6, 3) := by decide +kernel
theorem dX10_say_16 : decode cX10_say 16 = .ok (.ldc 242, 2) := by decide +kernel
theorem dX10_say_18 : decode cX10_say 18 = .ok (.ireturn, 1) := by decide +kernel
theorem dX10_say_19 : decode cX10_say 19 = .ok (.iload_n 3, 1) := by decide +kernel
theorem dX10_say_20 : decode cX10_say 20 = .ok (.i2l, 1) := by decide +kernel
theorem dX10_say_21 : decode cX10_say 21 = .ok (.lconst 0, 1) := by decide +kernel
theorem dX10_say_22 : decode cX10_say 22 = .ok (.ldc2_w 312, 3) := by decide +kernel
theorem dX10_say_25 : decode cX10_say 25 = .ok (.invokestatic 124, 3) := by decide +kernel
theorem dX10_say_28 : decode cX10_say 28 = .ok (.ifCond .ne 6, 3) := by decide +kernel
theorem dX10_say_31 : decode cX10_say 31 = .ok (.ldc 136, 2) := by decide +kernel
theorem dX10_say_33 : decode cX10_say 33 = .ok (.ireturn, 1) := by decide +kernel
theorem dX10_say_34 : decode cX10_say 34 = .ok (.iconst (-1), 1) := by decide +kernel
theorem dX10_say_35 : decode cX10_say 35 = .ok (.istore 4, 2) := by decide +kernel
theorem dX10_say_37 : decode cX10_say 37 = .ok (.iconst 0, 1) := by decide +kernel
theorem dX10_say_38 : decode cX10_say 38 = .ok (.istore 5, 2) := by decide +kernel
theorem dX10_say_40 : decode cX10_say 40 = .ok (.iconst 0, 1) := by decide +kernel
theorem dX10_say_41 : decode cX10_say 41 = .ok (.istore 6, 2) := by decide +kernel
theorem dX10_say_43 : decode cX10_say 43 = .ok (.iload 6, 2) := by decide +kernel
theorem dX10_say_45 : decode cX10_say 45 = .ok (.aload_n 0, 1) := by decide +kernel
theorem dX10_say_46 : decode cX10_say 46 = .ok (.getfield 131, 3) := by decide +kernel
theorem dX10_say_49 : decode cX10_say 49 = .ok (.if_icmp .ge 109, 3) := by decide +kernel
theorem dX10_say_52 : decode cX10_say 52 = .ok (.iconst 0, 1) := by decide +kernel
theorem dX10_say_53 : decode cX10_say 53 = .ok (.istore 7, 2) := by decide +kernel
theorem dX10_say_55 : decode cX10_say 55 = .ok (.iload 7, 2) := by decide +kernel
theorem dX10_say_57 : decode cX10_say 57 = .ok (.aload_n 0, 1) := by decide +kernel
theorem dX10_say_58 : decode cX10_say 58 = .ok (.getfield 121, 3) := by decide +kernel
theorem dX10_say_61 : decode cX10_say 61 = .ok (.if_icmp .ge 91, 3) := by decide +kernel
theorem dX10_say_64 : decode cX10_say 64 = .ok (.aload_n 0, 1) := by decide +kernel
theorem dX10_say_65 : decode cX10_say 65 = .ok (.getfield 19, 3) := by decide +kernel
theorem dX10_say_68 : decode cX10_say 68 = .ok (.iload 6, 2) := by decide +kernel
theorem dX10_say_70 : decode cX10_say 70 = .ok (.iaload, 1) := by decide +kernel
theorem dX10_say_71 : decode cX10_say 71 = .ok (.iload_n 1, 1) := by decide +kernel
theorem dX10_say_72 : decode cX10_say 72 = .ok (.if_icmp .ne 21, 3) := by decide +kernel
theorem dX10_say_75 : decode cX10_say 75 = .ok (.iload 7, 2) := by decide +kernel
theorem dX10_say_77 : decode cX10_say 77 = .ok (.iload_n 1, 1) := by decide +kernel
theorem dX10_say_78 : decode cX10_say 78 = .ok (.if_icmp .eq 15, 3) := by decide +kernel
theorem dX10_say_81 : decode cX10_say 81 = .ok (.aload_n 0, 1) := by decide +kernel
theorem dX10_say_82 : decode cX10_say 82 = .ok (.iload 6, 2) := by decide +kernel
theorem dX10_say_84 : decode cX10_say 84 = .ok (.iload_n 1, 1) := by decide +kernel
theorem dX10_say_85 : decode cX10_say 85 = .ok (.iload 7, 2) := by decide +kernel
theorem dX10_say_87 : decode cX10_say 87 = .ok (.invokevirtual 292, 3) := by decide +kernel
theorem dX10_say_90 : decode cX10_say 90 = .ok (.goto 4, 3) := by decide +kernel
theorem dX10_say_93 : decode cX10_say 93 = .ok (.iconst 0, 1) := by decide +kernel
theorem dX10_say_94 : decode cX10_say 94 = .ok (.istore 8, 2) := by decide +kernel
theorem dX10_say_96 : decode cX10_say 96 = .ok (.iload 8, 2) := by decide +kernel
theorem dX10_say_98 : decode cX10_say 98 = .ok (.ifCond .le 48, 3) := by decide +kernel
theorem dX10_say_101 : decode cX10_say 101 = .ok (.aload_n 0, 1) := by decide +kernel
theorem dX10_say_102 : decode cX10_say 102 = .ok (.iload_n 1, 1) := by decide +kernel
theorem dX10_say_103 : decode cX10_say 103 = .ok (.iload 8, 2) := by decide +kernel
theorem dX10_say_105 : decode cX10_say 105 = .ok (.invokevirtual 274, 3) := by decide +kernel
theorem dX10_say_108 : decode cX10_say 108 = .ok (.iload_n 2, 1) := by decide +kernel
theorem dX10_say_109 : decode cX10_say 109 = .ok (.if_icmp .ne 37, 3) := by decide +kernel
theorem dX10_say_112 : decode cX10_say 112 = .ok (.iload 4, 2) := by decide +kernel
theorem dX10_say_114 : decode cX10_say 114 = .ok (.ifCond .lt 14, 3) := by decide +kernel
theorem dX10_say_117 : decode cX10_say 117 = .ok (.aload_n 0, 1) := by decide +kernel
theorem dX10_say_118 : decode cX10_say 118 = .ok (.iload 8, 2) := by decide +kernel
theorem dX10_say_120 : decode cX10_say 120 = .ok (.invokevirtual 267, 3) := by decide +kernel
theorem dX10_say_123 : decode cX10_say 123 = .ok (.iload 5, 2) := by decide +kernel
theorem dX10_say_125 : decode cX10_say 125 = .ok (.if_icmp .ge 21, 3) := by decide +kernel
theorem dX10_say_128 : decode cX10_say 128 = .ok (.bipush 10, 2) := by decide +kernel
theorem dX10_say_130 : decode cX10_say 130 = .ok (.iload 6, 2) := by decide +kernel
theorem dX10_say_132 : decode cX10_say 132 = .ok (.imul, 1) := by decide +kernel
theorem dX10_say_133 : decode cX10_say 133 = .ok (.iload 7, 2) := by decide +kernel
theorem dX10_say_135 : decode cX10_say 135 = .ok (.iadd, 1) := by decide +kernel
theorem dX10_say_136 : decode cX10_say 136 = .ok (.istore 4, 2) := by decide +kernel
theorem dX10_say_138 : decode cX10_say 138 = .ok (.aload_n 0, 1) := by decide +kernel
theorem dX10_say_139 : decode cX10_say 139 = .ok (.iload 8, 2) := by decide +kernel
theorem dX10_say_141 : decode cX10_say 141 = .ok (.invokevirtual 267, 3) := by decide +kernel
theorem dX10_say_144 : decode cX10_say 144 = .ok (.istore 5, 2) := by decide +kernel
theorem dX10_say_146 : decode cX10_say 146 = .ok (.iinc 7 1, 3) := by decide +kernel
theorem dX10_say_149 : decode cX10_say 149 = .ok (.goto (-94), 3) := by decide +kernel
theorem dX10_say_152 : decode cX10_say 152 = .ok (.iinc 6 1, 3) := by decide +kernel
theorem dX10_say_155 : decode cX10_say 155 = .ok (.goto (-112), 3) := by decide +kernel
theorem dX10_say_158 : decode cX10_say 158 = .ok (.iload 4, 2) := by decide +kernel
theorem dX10_say_160 : decode cX10_say 160 = .ok (.ifCond .ge 7, 3) := by decide +kernel
theorem dX10_say_163 : decode cX10_say 163 = .ok (.iconst (-1), 1) := by decide +kernel
theorem dX10_say_164 : decode cX10_say 164 = .ok (.goto 30, 3) := by decide +kernel
theorem dX10_say_167 : decode cX10_say 167 = .ok (.iload_n 3, 1) := by decide +kernel
theorem dX10_say_168 : decode cX10_say 168 = .ok (.ifCond .ne 11, 3) := by decide +kernel
theorem dX10_say_171 : decode cX10_say 171 = .ok (.iload 4, 2) := by decide +kernel
theorem dX10_say_173 : decode cX10_say 173 = .ok (.bipush 10, 2) := by decide +kernel
theorem dX10_say_175 : decode cX10_say 175 = .ok (.idiv, 1) := by decide +kernel
theorem dX10_say_176 : decode cX10_say 176 = .ok (.goto 18, 3) := by decide +kernel
theorem dX10_say_179 : decode cX10_say 179 = .ok (.iload_n 3, 1) := by decide +kernel
theorem dX10_say_180 : decode cX10_say 180 = .ok (.iconst 1, 1) := by decide +kernel
theorem dX10_say_181 : decode cX10_say 181 = .ok (.if_icmp .ne 11, 3) := by decide +kernel
theorem dX10_say_184 : decode cX10_say 184 = .ok (.iload 4, 2) := by decide +kernel
theorem dX10_say_186 : decode cX10_say 186 = .ok (.bipush 10, 2) := by decide +kernel
theorem dX10_say_188 : decode cX10_say 188 = .ok (.irem, 1) := by decide +kernel
theorem dX10_say_189 : decode cX10_say 189 = .ok (.goto 5, 3) := by decide +kernel
theorem dX10_say_192 : decode cX10_say 192 = .ok (.iload 5, 2) := by decide +kernel
theorem dX10_say_194 : decode cX10_say 194 = .ok (.ireturn, 1) := by decide +kernel
theorem dX10_teach_0 : decode cX10_teach 0 = .ok (.iconst 1, 1) := by decide +kernel
theorem dX10_teach_1 : decode cX10_teach 1 = .ok (.iload_n 1, 1) := by decide +kernel
theorem dX10_teach_2 : decode cX10_teach 2 = .ok (.bipush 14, 2) := by decide +kernel
theorem dX10_teach_4 : decode cX10_teach 4 = .ok (.irem, 1) := by decide +kernel
theorem dX10_teach_5 : decode cX10_teach 5 = .ok (.ishl, 1) := by decide +kernel
theorem dX10_teach_6 : decode cX10_teach 6 = .ok (.istore_n 3, 1) := by decide +kernel
theorem dX10_teach_7 : decode cX10_teach 7 = .ok (.aload_n 0, 1) := by decide +kernel
theorem dX10_teach_8 : decode cX10_teach 8 = .ok (.getfield 31, 3) := by decide +kernel
theorem dX10_teach_11 : decode cX10_teach 11 = .ok (.iload_n 1, 1) := by decide +kernel
theorem dX10_teach_12 : decode cX10_teach 12 = .ok (.bipush 14, 2) := by decide +kernel
theorem dX10_teach_14 : decode cX10_teach 14 = .ok (.idiv, 1) := by decide +kernel
theorem dX10_teach_15 : decode cX10_teach 15 = .ok (.iload_n 2, 1) := by decide +kernel
theorem dX10_teach_16 : decode cX10_teach 16 = .ok (.ifCond .eq 17, 3) := by decide +kernel
theorem dX10_teach_19 : decode cX10_teach 19 = .ok (.aload_n 0, 1) := by decide +kernel
theorem dX10_teach_20 : decode cX10_teach 20 = .ok (.getfield 31, 3) := by decide +kernel
theorem dX10_teach_23 : decode cX10_teach 23 = .ok (.iload_n 1, 1) := by decide +kernel
theorem dX10_teach_24 : decode cX10_teach 24 = .ok (.bipush 14, 2) := by decide +kernel
theorem dX10_teach_26 : decode cX10_teach 26 = .ok (.idiv, 1) := by decide +kernel
theorem dX10_teach_27 : decode cX10_teach 27 = .ok (.iaload, 1) := by decide +kernel
theorem dX10_teach_28 : decode cX10_teach 28 = .ok (.iload_n 3, 1) := by decide +kernel
theorem dX10_teach_29 : decode cX10_teach 29 = .ok (.ior, 1) := by decide +kernel
theorem dX10_teach_30 : decode cX10_teach 30 = .ok (.goto 16, 3) := by decide +kernel
theorem dX10_teach_33 : decode cX10_teach 33 = .ok (.aload_n 0, 1) := by decide +kernel
theorem dX10_teach_34 : decode cX10_teach 34 = .ok (.getfield 31, 3) := by decide +kernel
theorem dX10_teach_37 : decode cX10_teach 37 = .ok (.iload_n 1, 1) := by decide +kernel
theorem dX10_teach_38 : decode cX10_teach 38 = .ok (.bipush 14, 2) := by decide +kernel
theorem dX10_teach_40 : decode cX10_teach 40 = .ok (.idiv, 1) := by decide +kernel
theorem dX10_teach_41 : decode cX10_teach 41 = .ok (.iaload, 1) := by decide +kernel
theorem dX10_teach_42 : decode cX10_teach 42 = .ok (.iload_n 3, 1) := by decide +kernel
theorem dX10_teach_43 : decode cX10_teach 43 = .ok (.iconst (-1), 1) := by decide +kernel
theorem dX10_teach_44 : decode cX10_teach 44 = .ok (.ixor, 1) := by decide +kernel
theorem dX10_teach_45 : decode cX10_teach 45 = .ok (.iand, 1) := by decide +kernel
theorem dX10_teach_46 : decode cX10_teach 46 = .ok (.iastore, 1) := by decide +kernel
theorem dX10_teach_47 : decode cX10_teach 47 = .ok (.return_, 1) := by decide +kernel
theorem dX10_isOpen_0 : decode cX10_isOpen 0 = .ok (.iload_n 1, 1) := by decide +kernel
theorem dX10_isOpen_1 : decode cX10_isOpen 1 = .ok (.bipush 14, 2) := by decide +kernel
theorem dX10_isOpen_3 : decode cX10_isOpen 3 = .ok (.idiv, 1) := by decide +kernel
theorem dX10_isOpen_4 : decode cX10_isOpen 4 = .ok (.aload_n 0, 1) := by decide +kernel
theorem dX10_isOpen_5 : decode cX10_isOpen 5 = .ok (.getfield 131, 3) := by decide +kernel
theorem dX10_isOpen_8 : decode cX10_isOpen 8 = .ok (.if_icmp .ge 37, 3) := by decide +kernel
theorem dX10_isOpen_11 : decode cX10_isOpen 11 = .ok (.iload_n 1, 1) := by decide +kernel
theorem dX10_isOpen_12 : decode cX10_isOpen 12 = .ok (.bipush 14, 2) := by decide +kernel
theorem dX10_isOpen_14 : decode cX10_isOpen 14 = .ok (.irem, 1) := by decide +kernel
theorem dX10_isOpen_15 : decode cX10_isOpen 15 = .ok (.aload_n 0, 1) := by decide +kernel
theorem dX10_isOpen_16 : decode cX10_isOpen 16 = .ok (.getfield 128, 3) := by decide +kernel
theorem dX10_isOpen_19 : decode cX10_isOpen 19 = .ok (.if_icmp .ge 26, 3) := by decide +kernel
theorem dX10_isOpen_22 : decode cX10_isOpen 22 = .ok (.aload_n 0, 1) := by decide +kernel
theorem dX10_isOpen_23 : decode cX10_isOpen 23 = .ok (.getfield 31, 3) := by decide +kernel
theorem dX10_isOpen_26 : decode cX10_isOpen 26 = .ok (.iload_n 1, 1) := by decide +kernel
theorem dX10_isOpen_27 : decode cX10_isOpen 27 = .ok (.bipush 14, 2) := by decide +kernel
theorem dX10_isOpen_29 : decode cX10_isOpen 29 = .ok (.idiv, 1) := by decide +kernel
theorem dX10_isOpen_30 : decode cX10_isOpen 30 = .ok (.iaload, 1) := by decide +kernel
theorem dX10_isOpen_31 : decode cX10_isOpen 31 = .ok (.iload_n 1, 1) := by decide +kernel
theorem dX10_isOpen_32 : decode cX10_isOpen 32 = .ok (.bipush 14, 2) := by decide +kernel
theorem dX10_isOpen_34 : decode cX10_isOpen 34 = .ok (.irem, 1) := by decide +kernel
theorem dX10_isOpen_35 : decode cX10_isOpen 35 = .ok (.invokestatic 210, 3) := by decide +kernel
theorem dX10_isOpen_38 : decode cX10_isOpen 38 = .ok (.ifCond .ne 7, 3) := by decide +kernel
theorem dX10_isOpen_41 : decode cX10_isOpen 41 = .ok (.iconst 1, 1) := by decide +kernel
theorem dX10_isOpen_42 : decode cX10_isOpen 42 = .ok (.goto 4, 3) := by decide +kernel
theorem dX10_isOpen_45 : decode cX10_isOpen 45 = .ok (.iconst 0, 1) := by decide +kernel
theorem dX10_isOpen_46 : decode cX10_isOpen 46 = .ok (.ireturn, 1) := by decide +kernel
theorem dX10_isSoon_0 : decode cX10_isSoon 0 = .ok (.aload_n 0, 1) := by decide +kernel
theorem dX10_isSoon_1 : decode cX10_isSoon 1 = .ok (.iload_n 1, 1) := by decide +kernel
theorem dX10_isSoon_2 : decode cX10_isSoon 2 = .ok (.iload_n 2, 1) := by decide +kernel
theorem dX10_isSoon_3 : decode cX10_isSoon 3 = .ok (.invokevirtual 306, 3) := by decide +kernel
theorem dX10_isSoon_6 : decode cX10_isSoon 6 = .ok (.i2l, 1) := by decide +kernel
theorem dX10_isSoon_7 : decode cX10_isSoon 7 = .ok (.lconst 0, 1) := by decide +kernel
theorem dX10_isSoon_8 : decode cX10_isSoon 8 = .ok (.iload_n 3, 1) := by decide +kernel
theorem dX10_isSoon_9 : decode cX10_isSoon 9 = .ok (.i2l, 1) := by decide +kernel
theorem dX10_isSoon_10 : decode cX10_isSoon 10 = .ok (.invokestatic 124, 3) := by decide +kernel
theorem dX10_isSoon_13 : decode cX10_isSoon 13 = .ok (.ireturn, 1) := by decide +kernel
theorem dX10_findLearnt_0 : decode cX10_findLearnt 0 = .ok (.aload_n 0, 1) := by decide +kernel
theorem dX10_findLearnt_1 : decode cX10_findLearnt 1 = .ok (.iconst (-1), 1) := by decide +kernel
theorem dX10_findLearnt_2 : decode cX10_findLearnt 2 = .ok (.putfield 325, 3) := by decide +kernel
theorem dX10_findLearnt_5 : decode cX10_findLearnt 5 = .ok (.aload_n 0, 1) := by decide +kernel
theorem dX10_findLearnt_6 : decode cX10_findLearnt 6 = .ok (.iconst (-1), 1) := by decide +kernel
theorem dX10_findLearnt_7 : decode cX10_findLearnt 7 = .ok (.putfield 328, 3) := by decide +kernel
theorem dX10_findLearnt_10 : decode cX10_findLearnt 10 = .ok (.aload_n 0, 1) := by decide +kernel
theorem dX10_findLearnt_11 : decode cX10_findLearnt 11 = .ok (.iload_n 1, 1) := by decide +kernel
theorem dX10_findLearnt_12 : decode cX10_findLearnt 12 = .ok (.iload_n 2, 1) := by decide +kernel
theorem dX10_findLearnt_13 : decode cX10_findLearnt 13 = .ok (.iload_n 3, 1) := by decide +kernel
theorem dX10_findLearnt_14 : decode cX10_findLearnt 14 = .ok (.invokevirtual 331, 3) := by decide +kernel
theorem dX10_findLearnt_17 : decode cX10_findLearnt 17 = .ok (.ifCond .eq 5, 3) := by decide +kernel
theorem dX10_findLearnt_20 : decode cX10_findLearnt 20 = .ok (.iconst 0, 1) := by decide +kernel
theorem dX10_findLearnt_21 : decode cX10_findLearnt 21 = .ok (.ireturn, 1) := by decide +kernel
theorem dX10_findLearnt_22 : decode cX10_findLearnt 22 = .ok (.bipush 84, 2) := by decide +kernel
theorem dX10_findLearnt_24 : decode cX10_findLearnt 24 = .ok (.istore 4, 2) := by decide +kernel
theorem dX10_findLearnt_26 : decode cX10_findLearnt 26 = .ok (.iconst 0, 1) := by decide +kernel
theorem dX10_findLearnt_27 : decode cX10_findLearnt 27 = .ok (.istore 5, 2) := by decide +kernel
theorem dX10_findLearnt_29 : decode cX10_findLearnt 29 = .ok (.iload 5, 2) := by decide +kernel
theorem dX10_findLearnt_31 : decode cX10_findLearnt 31 = .ok (.iload 4, 2) := by decide +kernel
theorem dX10_findLearnt_33 : decode cX10_findLearnt 33 = .ok (.if_icmp .ge 54, 3) := by decide +kernel
theorem dX10_findLearnt_36 : decode cX10_findLearnt 36 = .ok (.aload_n 0, 1) := by decide +kernel
theorem dX10_findLearnt_37 : decode cX10_findLearnt 37 = .ok (.iload 5, 2) := by decide +kernel
theorem dX10_findLearnt_39 : decode cX10_findLearnt 39 = .ok (.invokevirtual 334, 3) := by decide +kernel
theorem dX10_findLearnt_42 : decode cX10_findLearnt 42 = .ok (.ifCond .eq 39, 3) := by decide +kernel
theorem dX10_findLearnt_45 : decode cX10_findLearnt 45 = .ok (.aload_n 0, 1) := by decide +kernel
theorem dX10_findLearnt_46 : decode cX10_findLearnt 46 = .ok (.iload 5, 2) := by decide +kernel
theorem dX10_findLearnt_48 : decode cX10_findLearnt 48 = .ok (.iconst 1, 1) := by decide +kernel
theorem dX10_findLearnt_49 : decode cX10_findLearnt 49 = .ok (.invokevirtual 337, 3) := by decide +kernel
theorem dX10_findLearnt_52 : decode cX10_findLearnt 52 = .ok (.aload_n 0, 1) := by decide +kernel
theorem dX10_findLearnt_53 : decode cX10_findLearnt 53 = .ok (.iload_n 1, 1) := by decide +kernel
theorem dX10_findLearnt_54 : decode cX10_findLearnt 54 = .ok (.iload_n 2, 1) := by decide +kernel
theorem dX10_findLearnt_55 : decode cX10_findLearnt 55 = .ok (.iload_n 3, 1) := by decide +kernel
theorem dX10_findLearnt_56 : decode cX10_findLearnt 56 = .ok (.invokevirtual 331, 3) := by decide +kernel
theorem dX10_findLearnt_59 : decode cX10_findLearnt 59 = .ok (.istore 6, 2) := by decide +kernel
theorem dX10_findLearnt_61 : decode cX10_findLearnt 61 = .ok (.aload_n 0, 1) := by decide +kernel
theorem dX10_findLearnt_62 : decode cX10_findLearnt 62 = .ok (.iload 5, 2) := by decide +kernel
theorem dX10_findLearnt_64 : decode cX10_findLearnt 64 = .ok (.iconst 0, 1) := by decide +kernel
theorem dX10_findLearnt_65 : decode cX10_findLearnt 65 = .ok (.invokevirtual 337, 3) := by decide +kernel
theorem dX10_findLearnt_68 : decode cX10_findLearnt 68 = .ok (.iload 6, 2) := by decide +kernel
theorem dX10_findLearnt_70 : decode cX10_findLearnt 70 = .ok (.ifCond .eq 11, 3) := by decide +kernel
theorem dX10_findLearnt_73 : decode cX10_findLearnt 73 = .ok (.aload_n 0, 1) := by decide +kernel
theorem dX10_findLearnt_74 : decode cX10_findLearnt 74 = .ok (.iload 5, 2) := by decide +kernel
theorem dX10_findLearnt_76 : decode cX10_findLearnt 76 = .ok (.putfield 325, 3) := by decide +kernel
theorem dX10_findLearnt_79 : decode cX10_findLearnt 79 = .ok (.iconst 1, 1) := by decide +kernel
theorem dX10_findLearnt_80 : decode cX10_findLearnt 80 = .ok (.ireturn, 1) := by decide +kernel
theorem dX10_findLearnt_81 : decode cX10_findLearnt 81 = .ok (.iinc 5 1, 3) := by decide +kernel
theorem dX10_findLearnt_84 : decode cX10_findLearnt 84 = .ok (.goto (-55), 3) := by decide +kernel
theorem dX10_findLearnt_87 : decode cX10_findLearnt 87 = .ok (.iconst 0, 1) := by decide +kernel
theorem dX10_findLearnt_88 : decode cX10_findLearnt 88 = .ok (.istore 5, 2) := by decide +kernel
theorem dX10_findLearnt_90 : decode cX10_findLearnt 90 = .ok (.iload 5, 2) := by decide +kernel
theorem dX10_findLearnt_92 : decode cX10_findLearnt 92 = .ok (.iload 4, 2) := by decide +kernel
theorem dX10_findLearnt_94 : decode cX10_findLearnt 94 = .ok (.iload 4, 2) := by decide +kernel
theorem dX10_findLearnt_96 : decode cX10_findLearnt 96 = .ok (.imul, 1) := by decide +kernel
theorem dX10_findLearnt_97 : decode cX10_findLearnt 97 = .ok (.if_icmp .ge 104, 3) := by decide +kernel
theorem dX10_findLearnt_100 : decode cX10_findLearnt 100 = .ok (.iload 5, 2) := by decide +kernel
theorem dX10_findLearnt_102 : decode cX10_findLearnt 102 = .ok (.iload 4, 2) := by decide +kernel
theorem dX10_findLearnt_104 : decode cX10_findLearnt 104 = .ok (.idiv, 1) := by decide +kernel
theorem dX10_findLearnt_105 : decode cX10_findLearnt 105 = .ok (.istore 6, 2) := by decide +kernel
theorem dX10_findLearnt_107 : decode cX10_findLearnt 107 = .ok (.iload 5, 2) := by decide +kernel
theorem dX10_findLearnt_109 : decode cX10_findLearnt 109 = .ok (.iload 4, 2) := by decide +kernel
theorem dX10_findLearnt_111 : decode cX10_findLearnt 111 = .ok (.irem, 1) := by decide +kernel
theorem dX10_findLearnt_112 : decode cX10_findLearnt 112 = .ok (.istore 7, 2) := by decide +kernel
theorem dX10_findLearnt_114 : decode cX10_findLearnt 114 = .ok (.iload 6, 2) := by decide +kernel
theorem dX10_findLearnt_116 : decode cX10_findLearnt 116 = .ok (.iload 7, 2) := by decide +kernel
theorem dX10_findLearnt_118 : decode cX10_findLearnt 118 = .ok (.if_icmp .ge 77, 3) := by decide +kernel
theorem dX10_findLearnt_121 : decode cX10_findLearnt 121 = .ok (.aload_n 0, 1) := by decide +kernel
theorem dX10_findLearnt_122 : decode cX10_findLearnt 122 = .ok (.iload 6, 2) := by decide +kernel
theorem dX10_findLearnt_124 : decode cX10_findLearnt 124 = .ok (.invokevirtual 334, 3) := by decide +kernel
theorem dX10_findLearnt_127 : decode cX10_findLearnt 127 = .ok (.ifCond .eq 68, 3) := by decide +kernel
theorem dX10_findLearnt_130 : decode cX10_findLearnt 130 = .ok (.aload_n 0, 1) := by decide +kernel
theorem dX10_findLearnt_131 : decode cX10_findLearnt 131 = .ok (.iload 7, 2) := by decide +kernel
theorem dX10_findLearnt_133 : decode cX10_findLearnt 133 = .ok (.invokevirtual 334, 3) := by decide +kernel
theorem dX10_findLearnt_136 : decode cX10_findLearnt 136 = .ok (.ifCond .eq 59, 3) := by decide +kernel
theorem dX10_findLearnt_139 : decode cX10_findLearnt 139 = .ok (.aload_n 0, 1) := by decide +kernel
theorem dX10_findLearnt_140 : decode cX10_findLearnt 140 = .ok (.iload 6, 2) := by decide +kernel
theorem dX10_findLearnt_142 : decode cX10_findLearnt 142 = .ok (.iconst 1, 1) := by decide +kernel
theorem dX10_findLearnt_143 : decode cX10_findLearnt 143 = .ok (.invokevirtual 337, 3) := by decide +kernel
theorem dX10_findLearnt_146 : decode cX10_findLearnt 146 = .ok (.aload_n 0, 1) := by decide +kernel
theorem dX10_findLearnt_147 : decode cX10_findLearnt 147 = .ok (.iload 7, 2) := by decide +kernel
theorem dX10_findLearnt_149 : decode cX10_findLearnt 149 = .ok (.iconst 1, 1) := by decide +kernel
theorem dX10_findLearnt_150 : decode cX10_findLearnt 150 = .ok (.invokevirtual 337, 3) := by decide +kernel
theorem dX10_findLearnt_153 : decode cX10_findLearnt 153 = .ok (.aload_n 0, 1) := by decide +kernel
theorem dX10_findLearnt_154 : decode cX10_findLearnt 154 = .ok (.iload_n 1, 1) := by decide +kernel
theorem dX10_findLearnt_155 : decode cX10_findLearnt 155 = .ok (.iload_n 2, 1) := by decide +kernel
theorem dX10_findLearnt_156 : decode cX10_findLearnt 156 = .ok (.iload_n 3, 1) := by decide +kernel
theorem dX10_findLearnt_157 : decode cX10_findLearnt 157 = .ok (.invokevirtual 331, 3) := by decide +kernel
theorem dX10_findLearnt_160 : decode cX10_findLearnt 160 = .ok (.istore 8, 2) := by decide +kernel
theorem dX10_findLearnt_162 : decode cX10_findLearnt 162 = .ok (.aload_n 0, 1) := by decide +kernel
theorem dX10_findLearnt_163 : decode cX10_findLearnt 163 = .ok (.iload 6, 2) := by decide +kernel
theorem dX10_findLearnt_165 : decode cX10_findLearnt 165 = .ok (.iconst 0, 1) := by decide +kernel
theorem dX10_findLearnt_166 : decode cX10_findLearnt 166 = .ok (.invokevirtual 337, 3) := by decide +kernel
theorem dX10_findLearnt_169 : decode cX10_findLearnt 169 = .ok (.aload_n 0, 1) := by decide +kernel
theorem dX10_findLearnt_170 : decode cX10_findLearnt 170 = .ok (.iload 7, 2) := by decide +kernel
theorem dX10_findLearnt_172 : decode cX10_findLearnt 172 = .ok (.iconst 0, 1) := by decide +kernel
theorem dX10_findLearnt_173 : decode cX10_findLearnt 173 = .ok (.invokevirtual 337, 3) := by decide +kernel
theorem dX10_findLearnt_176 : decode cX10_findLearnt 176 = .ok (.iload 8, 2) := by decide +kernel
theorem dX10_findLearnt_178 : decode cX10_findLearnt 178 = .ok (.ifCond .eq 17, 3) := by decide +kernel
theorem dX10_findLearnt_181 : decode cX10_findLearnt 181 = .ok (.aload_n 0, 1) := by decide +kernel
theorem dX10_findLearnt_182 : decode cX10_findLearnt 182 = .ok (.iload 6, 2) := by decide +kernel
theorem dX10_findLearnt_184 : decode cX10_findLearnt 184 = .ok (.putfield 325, 3) := by decide +kernel
theorem dX10_findLearnt_187 : decode cX10_findLearnt 187 = .ok (.aload_n 0, 1) := by decide +kernel
theorem dX10_findLearnt_188 : decode cX10_findLearnt 188 = .ok (.iload 7, 2) := by decide +kernel
theorem dX10_findLearnt_190 : decode cX10_findLearnt 190 = .ok (.putfield 328, 3) := by decide +kernel
theorem dX10_findLearnt_193 : decode cX10_findLearnt 193 = .ok (.iconst 2, 1) := by decide +kernel
theorem dX10_findLearnt_194 : decode cX10_findLearnt 194 = .ok (.ireturn, 1) := by decide +kernel
theorem dX10_findLearnt_195 : decode cX10_findLearnt 195 = .ok (.iinc 5 1, 3) := by decide +kernel
theorem dX10_findLearnt_198 : decode cX10_findLearnt 198 = .ok (.goto (-108), 3) := by decide +kernel
theorem dX10_findLearnt_201 : decode cX10_findLearnt 201 = .ok (.iconst (-1), 1) := by decide +kernel
theorem dX10_findLearnt_202 : decode cX10_findLearnt 202 = .ok (.ireturn, 1) := by decide +kernel
theorem dX10_learnt_0 : decode cX10_learnt 0 = .ok (.aload_n 0, 1) := by decide +kernel
theorem dX10_learnt_1 : decode cX10_learnt 1 = .ok (.iload_n 1, 1) := by decide +kernel
theorem dX10_learnt_2 : decode cX10_learnt 2 = .ok (.invokevirtual 256, 3) := by decide +kernel
theorem dX10_learnt_5 : decode cX10_learnt 5 = .ok (.ifCond .eq 11, 3) := by decide +kernel
theorem dX10_learnt_8 : decode cX10_learnt 8 = .ok (.aload_n 0, 1) := by decide +kernel
theorem dX10_learnt_9 : decode cX10_learnt 9 = .ok (.iload_n 2, 1) := by decide +kernel
theorem dX10_learnt_10 : decode cX10_learnt 10 = .ok (.invokevirtual 256, 3) := by decide +kernel
theorem dX10_learnt_13 : decode cX10_learnt 13 = .ok (.ifCond .ne 6, 3) := by decide +kernel
theorem dX10_learnt_16 : decode cX10_learnt 16 = .ok (.ldc 242, 2) := by decide +kernel
theorem dX10_learnt_18 : decode cX10_learnt 18 = .ok (.ireturn, 1) := by decide +kernel
theorem dX10_learnt_19 : decode cX10_learnt 19 = .ok (.iload_n 3, 1) := by decide +kernel
theorem dX10_learnt_20 : decode cX10_learnt 20 = .ok (.i2l, 1) := by decide +kernel
theorem dX10_learnt_21 : decode cX10_learnt 21 = .ok (.lconst 0, 1) := by decide +kernel
theorem dX10_learnt_22 : decode cX10_learnt 22 = .ok (.ldc2_w 340, 3) := by decide +kernel
theorem dX10_learnt_25 : decode cX10_learnt 25 = .ok (.invokestatic 124, 3) := by decide +kernel
theorem dX10_learnt_28 : decode cX10_learnt 28 = .ok (.ifCond .eq 16, 3) := by decide +kernel
theorem dX10_learnt_31 : decode cX10_learnt 31 = .ok (.iload 4, 2) := by decide +kernel
theorem dX10_learnt_33 : decode cX10_learnt 33 = .ok (.i2l, 1) := by decide +kernel
theorem dX10_learnt_34 : decode cX10_learnt 34 = .ok (.lconst 0, 1) := by decide +kernel
theorem dX10_learnt_35 : decode cX10_learnt 35 = .ok (.ldc2_w 342, 3) := by decide +kernel
theorem dX10_learnt_38 : decode cX10_learnt 38 = .ok (.invokestatic 124, 3) := by decide +kernel
theorem dX10_learnt_41 : decode cX10_learnt 41 = .ok (.ifCond .ne 6, 3) := by decide +kernel
theorem dX10_learnt_44 : decode cX10_learnt 44 = .ok (.ldc 136, 2) := by decide +kernel
theorem dX10_learnt_46 : decode cX10_learnt 46 = .ok (.ireturn, 1) := by decide +kernel
theorem dX10_learnt_47 : decode cX10_learnt 47 = .ok (.aload_n 0, 1) := by decide +kernel
theorem dX10_learnt_48 : decode cX10_learnt 48 = .ok (.iload_n 1, 1) := by decide +kernel
theorem dX10_learnt_49 : decode cX10_learnt 49 = .ok (.iload_n 2, 1) := by decide +kernel
theorem dX10_learnt_50 : decode cX10_learnt 50 = .ok (.iload_n 3, 1) := by decide +kernel
theorem dX10_learnt_51 : decode cX10_learnt 51 = .ok (.invokevirtual 344, 3) := by decide +kernel
theorem dX10_learnt_54 : decode cX10_learnt 54 = .ok (.istore 5, 2) := by decide +kernel
theorem dX10_learnt_56 : decode cX10_learnt 56 = .ok (.iload 4, 2) := by decide +kernel
theorem dX10_learnt_58 : decode cX10_learnt 58 = .ok (.iconst 3, 1) := by decide +kernel
theorem dX10_learnt_59 : decode cX10_learnt 59 = .ok (.if_icmp .ge 10, 3) := by decide +kernel
theorem dX10_learnt_62 : decode cX10_learnt 62 = .ok (.aload_n 0, 1) := by decide +kernel
theorem dX10_learnt_63 : decode cX10_learnt 63 = .ok (.getfield 325, 3) := by decide +kernel
theorem dX10_learnt_66 : decode cX10_learnt 66 = .ok (.goto 7, 3) := by decide +kernel
theorem dX10_learnt_69 : decode cX10_learnt 69 = .ok (.aload_n 0, 1) := by decide +kernel
theorem dX10_learnt_70 : decode cX10_learnt 70 = .ok (.getfield 328, 3) := by decide +kernel
theorem dX10_learnt_73 : decode cX10_learnt 73 = .ok (.istore 6, 2) := by decide +kernel
theorem dX10_learnt_75 : decode cX10_learnt 75 = .ok (.iload 4, 2) := by decide +kernel
theorem dX10_learnt_77 : decode cX10_learnt 77 = .ok (.ifCond .ne 8, 3) := by decide +kernel
theorem dX10_learnt_80 : decode cX10_learnt 80 = .ok (.iload 5, 2) := by decide +kernel
theorem dX10_learnt_82 : decode cX10_learnt 82 = .ok (.goto 33, 3) := by decide +kernel
theorem dX10_learnt_85 : decode cX10_learnt 85 = .ok (.iload 6, 2) := by decide +kernel
theorem dX10_learnt_87 : decode cX10_learnt 87 = .ok (.ifCond .ge 7, 3) := by decide +kernel
theorem dX10_learnt_90 : decode cX10_learnt 90 = .ok (.iconst (-1), 1) := by decide +kernel
theorem dX10_learnt_91 : decode cX10_learnt 91 = .ok (.goto 24, 3) := by decide +kernel
theorem dX10_learnt_94 : decode cX10_learnt 94 = .ok (.iload 4, 2) := by decide +kernel
theorem dX10_learnt_96 : decode cX10_learnt 96 = .ok (.iconst 2, 1) := by decide +kernel
theorem dX10_learnt_97 : decode cX10_learnt 97 = .ok (.irem, 1) := by decide +kernel
theorem dX10_learnt_98 : decode cX10_learnt 98 = .ok (.iconst 1, 1) := by decide +kernel
theorem dX10_learnt_99 : decode cX10_learnt 99 = .ok (.if_icmp .ne 11, 3) := by decide +kernel
theorem dX10_learnt_102 : decode cX10_learnt 102 = .ok (.iload 6, 2) := by decide +kernel
theorem dX10_learnt_104 : decode cX10_learnt 104 = .ok (.bipush 14, 2) := by decide +kernel
theorem dX10_learnt_106 : decode cX10_learnt 106 = .ok (.idiv, 1) := by decide +kernel
theorem dX10_learnt_107 : decode cX10_learnt 107 = .ok (.goto 8, 3) := by decide +kernel
theorem dX10_learnt_110 : decode cX10_learnt 110 = .ok (.iload 6, 2) := by decide +kernel
theorem dX10_learnt_112 : decode cX10_learnt 112 = .ok (.bipush 14, 2) := by decide +kernel
theorem dX10_learnt_114 : decode cX10_learnt 114 = .ok (.irem, 1) := by decide +kernel
theorem dX10_learnt_115 : decode cX10_learnt 115 = .ok (.ireturn, 1) := by decide +kernel
theorem dX10_missingOf_0 : decode cX10_missingOf 0 = .ok (.iconst 0, 1) := by decide +kernel
theorem dX10_missingOf_1 : decode cX10_missingOf 1 = .ok (.istore_n 3, 1) := by decide +kernel
theorem dX10_missingOf_2 : decode cX10_missingOf 2 = .ok (.iconst 0, 1) := by decide +kernel
theorem dX10_missingOf_3 : decode cX10_missingOf 3 = .ok (.istore 4, 2) := by decide +kernel
theorem dX10_missingOf_5 : decode cX10_missingOf 5 = .ok (.iload 4, 2) := by decide +kernel
theorem dX10_missingOf_7 : decode cX10_missingOf 7 = .ok (.aload_n 0, 1) := by decide +kernel
theorem dX10_missingOf_8 : decode cX10_missingOf 8 = .ok (.getfield 121, 3) := by decide +kernel
theorem dX10_missingOf_11 : decode cX10_missingOf 11 = .ok (.if_icmp .ge 55, 3) := by decide +kernel
theorem dX10_missingOf_14 : decode cX10_missingOf 14 = .ok (.aload_n 0, 1) := by decide +kernel
theorem dX10_missingOf_15 : decode cX10_missingOf 15 = .ok (.aload_n 0, 1) := by decide +kernel
theorem dX10_missingOf_16 : decode cX10_missingOf 16 = .ok (.getfield 31, 3) := by decide +kernel
theorem dX10_missingOf_19 : decode cX10_missingOf 19 = .ok (.iload_n 1, 1) := by decide +kernel
theorem dX10_missingOf_20 : decode cX10_missingOf 20 = .ok (.iaload, 1) := by decide +kernel
theorem dX10_missingOf_21 : decode cX10_missingOf 21 = .ok (.aload_n 0, 1) := by decide +kernel
theorem dX10_missingOf_22 : decode cX10_missingOf 22 = .ok (.getfield 19, 3) := by decide +kernel
theorem dX10_missingOf_25 : decode cX10_missingOf 25 = .ok (.iload_n 1, 1) := by decide +kernel
theorem dX10_missingOf_26 : decode cX10_missingOf 26 = .ok (.iaload, 1) := by decide +kernel
theorem dX10_missingOf_27 : decode cX10_missingOf 27 = .ok (.iload 4, 2) := by decide +kernel
theorem dX10_missingOf_29 : decode cX10_missingOf 29 = .ok (.invokevirtual 263, 3) := by decide +kernel
theorem dX10_missingOf_32 : decode cX10_missingOf 32 = .ok (.istore 5, 2) := by decide +kernel
theorem dX10_missingOf_34 : decode cX10_missingOf 34 = .ok (.iload_n 3, 1) := by decide +kernel
theorem dX10_missingOf_35 : decode cX10_missingOf 35 = .ok (.iload 5, 2) := by decide +kernel
theorem dX10_missingOf_37 : decode cX10_missingOf 37 = .ok (.ifCond .le 20, 3) := by decide +kernel
theorem dX10_missingOf_40 : decode cX10_missingOf 40 = .ok (.aload_n 0, 1) := by decide +kernel
theorem dX10_missingOf_41 : decode cX10_missingOf 41 = .ok (.iload 5, 2) := by decide +kernel
theorem dX10_missingOf_43 : decode cX10_missingOf 43 = .ok (.invokevirtual 283, 3) := by decide +kernel
theorem dX10_missingOf_46 : decode cX10_missingOf 46 = .ok (.iload_n 2, 1) := by decide +kernel
theorem dX10_missingOf_47 : decode cX10_missingOf 47 = .ok (.if_icmp .ne 10, 3) := by decide +kernel
theorem dX10_missingOf_50 : decode cX10_missingOf 50 = .ok (.iconst 1, 1) := by decide +kernel
theorem dX10_missingOf_51 : decode cX10_missingOf 51 = .ok (.iload 4, 2) := by decide +kernel
theorem dX10_missingOf_53 : decode cX10_missingOf 53 = .ok (.ishl, 1) := by decide +kernel
theorem dX10_missingOf_54 : decode cX10_missingOf 54 = .ok (.goto 4, 3) := by decide +kernel
theorem dX10_missingOf_57 : decode cX10_missingOf 57 = .ok (.iconst 0, 1) := by decide +kernel
theorem dX10_missingOf_58 : decode cX10_missingOf 58 = .ok (.ior, 1) := by decide +kernel
theorem dX10_missingOf_59 : decode cX10_missingOf 59 = .ok (.istore_n 3, 1) := by decide +kernel
theorem dX10_missingOf_60 : decode cX10_missingOf 60 = .ok (.iinc 4 1, 3) := by decide +kernel
theorem dX10_missingOf_63 : decode cX10_missingOf 63 = .ok (.goto (-58), 3) := by decide +kernel
theorem dX10_missingOf_66 : decode cX10_missingOf 66 = .ok (.iload_n 3, 1) := by decide +kernel
theorem dX10_missingOf_67 : decode cX10_missingOf 67 = .ok (.ireturn, 1) := by decide +kernel
theorem dX10_missing_0 : decode cX10_missing 0 = .ok (.aload_n 0, 1) := by decide +kernel
theorem dX10_missing_1 : decode cX10_missing 1 = .ok (.iload_n 1, 1) := by decide +kernel
theorem dX10_missing_2 : decode cX10_missing 2 = .ok (.invokevirtual 243, 3) := by decide +kernel
theorem dX10_missing_5 : decode cX10_missing 5 = .ok (.ifCond .ne 6, 3) := by decide +kernel
theorem dX10_missing_8 : decode cX10_missing 8 = .ok (.ldc 242, 2) := by decide +kernel
theorem dX10_missing_10 : decode cX10_missing 10 = .ok (.ireturn, 1) := by decide +kernel
theorem dX10_missing_11 : decode cX10_missing 11 = .ok (.iload_n 2, 1) := by decide +kernel
theorem dX10_missing_12 : decode cX10_missing 12 = .ok (.i2l, 1) := by decide +kernel
theorem dX10_missing_13 : decode cX10_missing 13 = .ok (.lconst 0, 1) := by decide +kernel
theorem dX10_missing_14 : decode cX10_missing 14 = .ok (.ldc2_w 340, 3) := by decide +kernel
theorem dX10_missing_17 : decode cX10_missing 17 = .ok (.invokestatic 124, 3) := by decide +kernel
theorem dX10_missing_20 : decode cX10_missing 20 = .ok (.ifCond .eq 12, 3) := by decide +kernel
theorem dX10_missing_23 : decode cX10_missing 23 = .ok (.aload_n 0, 1) := by decide +kernel
theorem dX10_missing_24 : decode cX10_missing 24 = .ok (.iload_n 1, 1) := by decide +kernel
theorem dX10_missing_25 : decode cX10_missing 25 = .ok (.iload_n 2, 1) := by decide +kernel
theorem dX10_missing_26 : decode cX10_missing 26 = .ok (.invokevirtual 347, 3) := by decide +kernel
theorem dX10_missing_29 : decode cX10_missing 29 = .ok (.goto 5, 3) := by decide +kernel
theorem dX10_missing_32 : decode cX10_missing 32 = .ok (.ldc 136, 2) := by decide +kernel
theorem dX10_missing_34 : decode cX10_missing 34 = .ok (.ireturn, 1) := by decide +kernel
theorem dX10_lack_0 : decode cX10_lack 0 = .ok (.aload_n 0, 1) := by decide +kernel
theorem dX10_lack_1 : decode cX10_lack 1 = .ok (.iload_n 1, 1) := by decide +kernel
theorem dX10_lack_2 : decode cX10_lack 2 = .ok (.invokevirtual 243, 3) := by decide +kernel
theorem dX10_lack_5 : decode cX10_lack 5 = .ok (.ifCond .ne 6, 3) := by decide +kernel
theorem dX10_lack_8 : decode cX10_lack 8 = .ok (.ldc 242, 2) := by decide +kernel
theorem dX10_lack_10 : decode cX10_lack 10 = .ok (.ireturn, 1) := by decide +kernel
theorem dX10_lack_11 : decode cX10_lack 11 = .ok (.iload_n 2, 1) := by decide +kernel
theorem dX10_lack_12 : decode cX10_lack 12 = .ok (.i2l, 1) := by decide +kernel
theorem dX10_lack_13 : decode cX10_lack 13 = .ok (.lconst 0, 1) := by decide +kernel
theorem dX10_lack_14 : decode cX10_lack 14 = .ok (.ldc2_w 340, 3) := by decide +kernel
theorem dX10_lack_17 : decode cX10_lack 17 = .ok (.invokestatic 124, 3) := by decide +kernel
theorem dX10_lack_20 : decode cX10_lack 20 = .ok (.ifCond .ne 6, 3) := by decide +kernel
theorem dX10_lack_23 : decode cX10_lack 23 = .ok (.ldc 136, 2) := by decide +kernel
theorem dX10_lack_25 : decode cX10_lack 25 = .ok (.ireturn, 1) := by decide +kernel
theorem dX10_lack_26 : decode cX10_lack 26 = .ok (.aload_n 0, 1) := by decide +kernel
theorem dX10_lack_27 : decode cX10_lack 27 = .ok (.getfield 232, 3) := by decide +kernel
theorem dX10_lack_30 : decode cX10_lack 30 = .ok (.bipush 8, 2) := by decide +kernel
theorem dX10_lack_32 : decode cX10_lack 32 = .ok (.if_icmp .ne 6, 3) := by decide +kernel
theorem dX10_lack_35 : decode cX10_lack 35 = .ok (.ldc 140, 2) := by decide +kernel
theorem dX10_lack_37 : decode cX10_lack 37 = .ok (.ireturn, 1) := by decide +kernel
theorem dX10_lack_38 : decode cX10_lack 38 = .ok (.aload_n 0, 1) := by decide +kernel
theorem dX10_lack_39 : decode cX10_lack 39 = .ok (.getfield 96, 3) := by decide +kernel
theorem dX10_lack_42 : decode cX10_lack 42 = .ok (.aload_n 0, 1) := by decide +kernel
theorem dX10_lack_43 : decode cX10_lack 43 = .ok (.getfield 232, 3) := by decide +kernel
theorem dX10_lack_46 : decode cX10_lack 46 = .ok (.iload_n 1, 1) := by decide +kernel
theorem dX10_lack_47 : decode cX10_lack 47 = .ok (.iastore, 1) := by decide +kernel
theorem dX10_lack_48 : decode cX10_lack 48 = .ok (.aload_n 0, 1) := by decide +kernel
theorem dX10_lack_49 : decode cX10_lack 49 = .ok (.getfield 99, 3) := by decide +kernel
theorem dX10_lack_52 : decode cX10_lack 52 = .ok (.aload_n 0, 1) := by decide +kernel
theorem dX10_lack_53 : decode cX10_lack 53 = .ok (.getfield 232, 3) := by decide +kernel
theorem dX10_lack_56 : decode cX10_lack 56 = .ok (.iload_n 2, 1) := by decide +kernel
theorem dX10_lack_57 : decode cX10_lack 57 = .ok (.iastore, 1) := by decide +kernel
theorem dX10_lack_58 : decode cX10_lack 58 = .ok (.aload_n 0, 1) := by decide +kernel
theorem dX10_lack_59 : decode cX10_lack 59 = .ok (.dup, 1) := by decide +kernel
theorem dX10_lack_60 : decode cX10_lack 60 = .ok (.getfield 232, 3) := by decide +kernel
theorem dX10_lack_63 : decode cX10_lack 63 = .ok (.iconst 1, 1) := by decide +kernel
theorem dX10_lack_64 : decode cX10_lack 64 = .ok (.iadd, 1) := by decide +kernel
theorem dX10_lack_65 : decode cX10_lack 65 = .ok (.putfield 232, 3) := by decide +kernel
theorem dX10_lack_68 : decode cX10_lack 68 = .ok (.aload_n 0, 1) := by decide +kernel
theorem dX10_lack_69 : decode cX10_lack 69 = .ok (.getfield 232, 3) := by decide +kernel
theorem dX10_lack_72 : decode cX10_lack 72 = .ok (.ireturn, 1) := by decide +kernel
theorem dX10_fits_0 : decode cX10_fits 0 = .ok (.iconst 1, 1) := by decide +kernel
theorem dX10_fits_1 : decode cX10_fits 1 = .ok (.istore_n 1, 1) := by decide +kernel
theorem dX10_fits_2 : decode cX10_fits 2 = .ok (.iconst 0, 1) := by decide +kernel
theorem dX10_fits_3 : decode cX10_fits 3 = .ok (.istore_n 2, 1) := by decide +kernel
theorem dX10_fits_4 : decode cX10_fits 4 = .ok (.iload_n 2, 1) := by decide +kernel
theorem dX10_fits_5 : decode cX10_fits 5 = .ok (.aload_n 0, 1) := by decide +kernel
theorem dX10_fits_6 : decode cX10_fits 6 = .ok (.getfield 232, 3) := by decide +kernel
theorem dX10_fits_9 : decode cX10_fits 9 = .ok (.if_icmp .ge 34, 3) := by decide +kernel
theorem dX10_fits_12 : decode cX10_fits 12 = .ok (.aload_n 0, 1) := by decide +kernel
theorem dX10_fits_13 : decode cX10_fits 13 = .ok (.aload_n 0, 1) := by decide +kernel
theorem dX10_fits_14 : decode cX10_fits 14 = .ok (.getfield 96, 3) := by decide +kernel
theorem dX10_fits_17 : decode cX10_fits 17 = .ok (.iload_n 2, 1) := by decide +kernel
theorem dX10_fits_18 : decode cX10_fits 18 = .ok (.iaload, 1) := by decide +kernel
theorem dX10_fits_19 : decode cX10_fits 19 = .ok (.aload_n 0, 1) := by decide +kernel
theorem dX10_fits_20 : decode cX10_fits 20 = .ok (.getfield 99, 3) := by decide +kernel
theorem dX10_fits_23 : decode cX10_fits 23 = .ok (.iload_n 2, 1) := by decide +kernel
theorem dX10_fits_24 : decode cX10_fits 24 = .ok (.iaload, 1) := by decide +kernel
theorem dX10_fits_25 : decode cX10_fits 25 = .ok (.invokevirtual 347, 3) := by decide +kernel
theorem dX10_fits_28 : decode cX10_fits 28 = .ok (.ifCond .ne 7, 3) := by decide +kernel
theorem dX10_fits_31 : decode cX10_fits 31 = .ok (.iconst 0, 1) := by decide +kernel
theorem dX10_fits_32 : decode cX10_fits 32 = .ok (.goto 4, 3) := by decide +kernel
theorem dX10_fits_35 : decode cX10_fits 35 = .ok (.iload_n 1, 1) := by decide +kernel
theorem dX10_fits_36 : decode cX10_fits 36 = .ok (.istore_n 1, 1) := by decide +kernel
theorem dX10_fits_37 : decode cX10_fits 37 = .ok (.iinc 2 1, 3) := by decide +kernel
theorem dX10_fits_40 : decode cX10_fits 40 = .ok (.goto (-36), 3) := by decide +kernel
theorem dX10_fits_43 : decode cX10_fits 43 = .ok (.iload_n 1, 1) := by decide +kernel
theorem dX10_fits_44 : decode cX10_fits 44 = .ok (.ireturn, 1) := by decide +kernel
theorem dX10_log_0 : decode cX10_log 0 = .ok (.aload_n 0, 1) := by decide +kernel
theorem dX10_log_1 : decode cX10_log 1 = .ok (.iload_n 1, 1) := by decide +kernel
theorem dX10_log_2 : decode cX10_log 2 = .ok (.invokevirtual 243, 3) := by decide +kernel
theorem dX10_log_5 : decode cX10_log 5 = .ok (.ifCond .eq 20, 3) := by decide +kernel
theorem dX10_log_8 : decode cX10_log 8 = .ok (.aload_n 0, 1) := by decide +kernel
theorem dX10_log_9 : decode cX10_log 9 = .ok (.iload_n 2, 1) := by decide +kernel
theorem dX10_log_10 : decode cX10_log 10 = .ok (.invokevirtual 256, 3) := by decide +kernel
theorem dX10_log_13 : decode cX10_log 13 = .ok (.ifCond .eq 12, 3) := by decide +kernel
theorem dX10_log_16 : decode cX10_log 16 = .ok (.aload_n 0, 1) := by decide +kernel
theorem dX10_log_17 : decode cX10_log 17 = .ok (.iload 4, 2) := by decide +kernel
theorem dX10_log_19 : decode cX10_log 19 = .ok (.invokevirtual 256, 3) := by decide +kernel
theorem dX10_log_22 : decode cX10_log 22 = .ok (.ifCond .ne 6, 3) := by decide +kernel
theorem dX10_log_25 : decode cX10_log 25 = .ok (.ldc 242, 2) := by decide +kernel
theorem dX10_log_27 : decode cX10_log 27 = .ok (.ireturn, 1) := by decide +kernel
theorem dX10_log_28 : decode cX10_log 28 = .ok (.iload_n 3, 1) := by decide +kernel
theorem dX10_log_29 : decode cX10_log 29 = .ok (.i2l, 1) := by decide +kernel
theorem dX10_log_30 : decode cX10_log 30 = .ok (.lconst 0, 1) := by decide +kernel
theorem dX10_log_31 : decode cX10_log 31 = .ok (.ldc2_w 350, 3) := by decide +kernel
theorem dX10_log_34 : decode cX10_log 34 = .ok (.invokestatic 124, 3) := by decide +kernel
theorem dX10_log_37 : decode cX10_log 37 = .ok (.ifCond .ne 6, 3) := by decide +kernel
theorem dX10_log_40 : decode cX10_log 40 = .ok (.ldc 136, 2) := by decide +kernel
theorem dX10_log_42 : decode cX10_log 42 = .ok (.ireturn, 1) := by decide +kernel
theorem dX10_log_43 : decode cX10_log 43 = .ok (.aload_n 0, 1) := by decide +kernel
theorem dX10_log_44 : decode cX10_log 44 = .ok (.getfield 229, 3) := by decide +kernel
theorem dX10_log_47 : decode cX10_log 47 = .ok (.bipush 30, 2) := by decide +kernel
theorem dX10_log_49 : decode cX10_log 49 = .ok (.if_icmp .ne 6, 3) := by decide +kernel
theorem dX10_log_52 : decode cX10_log 52 = .ok (.ldc 140, 2) := by decide +kernel
theorem dX10_log_54 : decode cX10_log 54 = .ok (.ireturn, 1) := by decide +kernel
theorem dX10_log_55 : decode cX10_log 55 = .ok (.aload_n 0, 1) := by decide +kernel
theorem dX10_log_56 : decode cX10_log 56 = .ok (.getfield 102, 3) := by decide +kernel
theorem dX10_log_59 : decode cX10_log 59 = .ok (.aload_n 0, 1) := by decide +kernel
theorem dX10_log_60 : decode cX10_log 60 = .ok (.getfield 229, 3) := by decide +kernel
theorem dX10_log_63 : decode cX10_log 63 = .ok (.iload_n 1, 1) := by decide +kernel
theorem dX10_log_64 : decode cX10_log 64 = .ok (.iastore, 1) := by decide +kernel
theorem dX10_log_65 : decode cX10_log 65 = .ok (.aload_n 0, 1) := by decide +kernel
theorem dX10_log_66 : decode cX10_log 66 = .ok (.getfield 105, 3) := by decide +kernel
theorem dX10_log_69 : decode cX10_log 69 = .ok (.aload_n 0, 1) := by decide +kernel
theorem dX10_log_70 : decode cX10_log 70 = .ok (.getfield 229, 3) := by decide +kernel
theorem dX10_log_73 : decode cX10_log 73 = .ok (.iload_n 2, 1) := by decide +kernel
theorem dX10_log_74 : decode cX10_log 74 = .ok (.iastore, 1) := by decide +kernel
theorem dX10_log_75 : decode cX10_log 75 = .ok (.aload_n 0, 1) := by decide +kernel
theorem dX10_log_76 : decode cX10_log 76 = .ok (.getfield 108, 3) := by decide +kernel
theorem dX10_log_79 : decode cX10_log 79 = .ok (.aload_n 0, 1) := by decide +kernel
theorem dX10_log_80 : decode cX10_log 80 = .ok (.getfield 229, 3) := by decide +kernel
theorem dX10_log_83 : decode cX10_log 83 = .ok (.iload_n 3, 1) := by decide +kernel
theorem dX10_log_84 : decode cX10_log 84 = .ok (.iastore, 1) := by decide +kernel
theorem dX10_log_85 : decode cX10_log 85 = .ok (.aload_n 0, 1) := by decide +kernel
theorem dX10_log_86 : decode cX10_log 86 = .ok (.getfield 111, 3) := by decide +kernel
theorem dX10_log_89 : decode cX10_log 89 = .ok (.aload_n 0, 1) := by decide +kernel
theorem dX10_log_90 : decode cX10_log 90 = .ok (.getfield 229, 3) := by decide +kernel
theorem dX10_log_93 : decode cX10_log 93 = .ok (.iload 4, 2) := by decide +kernel
theorem dX10_log_95 : decode cX10_log 95 = .ok (.iastore, 1) := by decide +kernel
theorem dX10_log_96 : decode cX10_log 96 = .ok (.aload_n 0, 1) := by decide +kernel
theorem dX10_log_97 : decode cX10_log 97 = .ok (.dup, 1) := by decide +kernel
theorem dX10_log_98 : decode cX10_log 98 = .ok (.getfield 229, 3) := by decide +kernel
theorem dX10_log_101 : decode cX10_log 101 = .ok (.iconst 1, 1) := by decide +kernel
theorem dX10_log_102 : decode cX10_log 102 = .ok (.iadd, 1) := by decide +kernel
theorem dX10_log_103 : decode cX10_log 103 = .ok (.putfield 229, 3) := by decide +kernel
theorem dX10_log_106 : decode cX10_log 106 = .ok (.aload_n 0, 1) := by decide +kernel
theorem dX10_log_107 : decode cX10_log 107 = .ok (.getfield 229, 3) := by decide +kernel
theorem dX10_log_110 : decode cX10_log 110 = .ok (.ireturn, 1) := by decide +kernel
theorem dX10_clear_0 : decode cX10_clear 0 = .ok (.aload_n 0, 1) := by decide +kernel
theorem dX10_clear_1 : decode cX10_clear 1 = .ok (.getfield 229, 3) := by decide +kernel
theorem dX10_clear_4 : decode cX10_clear 4 = .ok (.aload_n 0, 1) := by decide +kernel
theorem dX10_clear_5 : decode cX10_clear 5 = .ok (.getfield 232, 3) := by decide +kernel
theorem dX10_clear_8 : decode cX10_clear 8 = .ok (.iadd, 1) := by decide +kernel
theorem dX10_clear_9 : decode cX10_clear 9 = .ok (.istore_n 1, 1) := by decide +kernel
theorem dX10_clear_10 : decode cX10_clear 10 = .ok (.aload_n 0, 1) := by decide +kernel
theorem dX10_clear_11 : decode cX10_clear 11 = .ok (.iconst 0, 1) := by decide +kernel
theorem dX10_clear_12 : decode cX10_clear 12 = .ok (.putfield 229, 3) := by decide +kernel
theorem dX10_clear_15 : decode cX10_clear 15 = .ok (.aload_n 0, 1) := by decide +kernel
theorem dX10_clear_16 : decode cX10_clear 16 = .ok (.iconst 0, 1) := by decide +kernel
theorem dX10_clear_17 : decode cX10_clear 17 = .ok (.putfield 232, 3) := by decide +kernel
theorem dX10_clear_20 : decode cX10_clear 20 = .ok (.iload_n 1, 1) := by decide +kernel
theorem dX10_clear_21 : decode cX10_clear 21 = .ok (.ireturn, 1) := by decide +kernel
theorem dX10_mayBe_0 : decode cX10_mayBe 0 = .ok (.aload_n 0, 1) := by decide +kernel
theorem dX10_mayBe_1 : decode cX10_mayBe 1 = .ok (.getfield 102, 3) := by decide +kernel
theorem dX10_mayBe_4 : decode cX10_mayBe 4 = .ok (.iload_n 1, 1) := by decide +kernel
theorem dX10_mayBe_5 : decode cX10_mayBe 5 = .ok (.iaload, 1) := by decide +kernel
theorem dX10_mayBe_6 : decode cX10_mayBe 6 = .ok (.istore_n 2, 1) := by decide +kernel
theorem dX10_mayBe_7 : decode cX10_mayBe 7 = .ok (.aload_n 0, 1) := by decide +kernel
theorem dX10_mayBe_8 : decode cX10_mayBe 8 = .ok (.aload_n 0, 1) := by decide +kernel
theorem dX10_mayBe_9 : decode cX10_mayBe 9 = .ok (.getfield 31, 3) := by decide +kernel
theorem dX10_mayBe_12 : decode cX10_mayBe 12 = .ok (.iload_n 2, 1) := by decide +kernel
theorem dX10_mayBe_13 : decode cX10_mayBe 13 = .ok (.iaload, 1) := by decide +kernel
theorem dX10_mayBe_14 : decode cX10_mayBe 14 = .ok (.aload_n 0, 1) := by decide +kernel
theorem dX10_mayBe_15 : decode cX10_mayBe 15 = .ok (.getfield 19, 3) := by decide +kernel
theorem dX10_mayBe_18 : decode cX10_mayBe 18 = .ok (.iload_n 2, 1) := by decide +kernel
theorem dX10_mayBe_19 : decode cX10_mayBe 19 = .ok (.iaload, 1) := by decide +kernel
theorem dX10_mayBe_20 : decode cX10_mayBe 20 = .ok (.aload_n 0, 1) := by decide +kernel
theorem dX10_mayBe_21 : decode cX10_mayBe 21 = .ok (.getfield 105, 3) := by decide +kernel
theorem dX10_mayBe_24 : decode cX10_mayBe 24 = .ok (.iload_n 1, 1) := by decide +kernel
theorem dX10_mayBe_25 : decode cX10_mayBe 25 = .ok (.iaload, 1) := by decide +kernel
theorem dX10_mayBe_26 : decode cX10_mayBe 26 = .ok (.invokevirtual 263, 3) := by decide +kernel
theorem dX10_mayBe_29 : decode cX10_mayBe 29 = .ok (.istore_n 3, 1) := by decide +kernel
theorem dX10_mayBe_30 : decode cX10_mayBe 30 = .ok (.aload_n 0, 1) := by decide +kernel
theorem dX10_mayBe_31 : decode cX10_mayBe 31 = .ok (.getfield 108, 3) := by decide +kernel
theorem dX10_mayBe_34 : decode cX10_mayBe 34 = .ok (.iload_n 1, 1) := by decide +kernel
theorem dX10_mayBe_35 : decode cX10_mayBe 35 = .ok (.iaload, 1) := by decide +kernel
theorem dX10_mayBe_36 : decode cX10_mayBe 36 = .ok (.ifCond .ne 24, 3) := by decide +kernel
theorem dX10_mayBe_39 : decode cX10_mayBe 39 = .ok (.aload_n 0, 1) := by decide +kernel
theorem dX10_mayBe_40 : decode cX10_mayBe 40 = .ok (.getfield 111, 3) := by decide +kernel
theorem dX10_mayBe_43 : decode cX10_mayBe 43 = .ok (.iload_n 1, 1) := by decide +kernel
theorem dX10_mayBe_44 : decode cX10_mayBe 44 = .ok (.iaload, 1) := by decide +kernel
theorem dX10_mayBe_45 : decode cX10_mayBe 45 = .ok (.aload_n 0, 1) := by decide +kernel
theorem dX10_mayBe_46 : decode cX10_mayBe 46 = .ok (.getfield 19, 3) := by decide +kernel
theorem dX10_mayBe_49 : decode cX10_mayBe 49 = .ok (.iload_n 2, 1) := by decide +kernel
theorem dX10_mayBe_50 : decode cX10_mayBe 50 = .ok (.iaload, 1) := by decide +kernel
theorem dX10_mayBe_51 : decode cX10_mayBe 51 = .ok (.if_icmp .ne 7, 3) := by decide +kernel
theorem dX10_mayBe_54 : decode cX10_mayBe 54 = .ok (.iconst 1, 1) := by decide +kernel
theorem dX10_mayBe_55 : decode cX10_mayBe 55 = .ok (.goto 4, 3) := by decide +kernel
theorem dX10_mayBe_58 : decode cX10_mayBe 58 = .ok (.iconst 0, 1) := by decide +kernel
theorem dX10_mayBe_59 : decode cX10_mayBe 59 = .ok (.ireturn, 1) := by decide +kernel
theorem dX10_mayBe_60 : decode cX10_mayBe 60 = .ok (.aload_n 0, 1) := by decide +kernel
theorem dX10_mayBe_61 : decode cX10_mayBe 61 = .ok (.getfield 108, 3) := by decide +kernel
theorem dX10_mayBe_64 : decode cX10_mayBe 64 = .ok (.iload_n 1, 1) := by decide +kernel
theorem dX10_mayBe_65 : decode cX10_mayBe 65 = .ok (.iaload, 1) := by decide +kernel
theorem dX10_mayBe_66 : decode cX10_mayBe 66 = .ok (.iload_n 3, 1) := by decide +kernel
theorem dX10_mayBe_67 : decode cX10_mayBe 67 = .ok (.if_icmp .gt 32, 3) := by decide +kernel
theorem dX10_mayBe_70 : decode cX10_mayBe 70 = .ok (.aload_n 0, 1) := by decide +kernel
theorem dX10_mayBe_71 : decode cX10_mayBe 71 = .ok (.aload_n 0, 1) := by decide +kernel
theorem dX10_mayBe_72 : decode cX10_mayBe 72 = .ok (.getfield 19, 3) := by decide +kernel
theorem dX10_mayBe_75 : decode cX10_mayBe 75 = .ok (.iload_n 2, 1) := by decide +kernel
theorem dX10_mayBe_76 : decode cX10_mayBe 76 = .ok (.iaload, 1) := by decide +kernel
theorem dX10_mayBe_77 : decode cX10_mayBe 77 = .ok (.aload_n 0, 1) := by decide +kernel
theorem dX10_mayBe_78 : decode cX10_mayBe 78 = .ok (.getfield 108, 3) := by decide +kernel
theorem dX10_mayBe_81 : decode cX10_mayBe 81 = .ok (.iload_n 1, 1) := by decide +kernel
theorem dX10_mayBe_82 : decode cX10_mayBe 82 = .ok (.iaload, 1) := by decide +kernel
theorem dX10_mayBe_83 : decode cX10_mayBe 83 = .ok (.invokevirtual 280, 3) := by decide +kernel
theorem dX10_mayBe_86 : decode cX10_mayBe 86 = .ok (.aload_n 0, 1) := by decide +kernel
theorem dX10_mayBe_87 : decode cX10_mayBe 87 = .ok (.getfield 111, 3) := by decide +kernel
theorem dX10_mayBe_90 : decode cX10_mayBe 90 = .ok (.iload_n 1, 1) := by decide +kernel
theorem dX10_mayBe_91 : decode cX10_mayBe 91 = .ok (.iaload, 1) := by decide +kernel
theorem dX10_mayBe_92 : decode cX10_mayBe 92 = .ok (.if_icmp .ne 7, 3) := by decide +kernel
theorem dX10_mayBe_95 : decode cX10_mayBe 95 = .ok (.iconst 1, 1) := by decide +kernel
theorem dX10_mayBe_96 : decode cX10_mayBe 96 = .ok (.goto 4, 3) := by decide +kernel
theorem dX10_mayBe_99 : decode cX10_mayBe 99 = .ok (.iconst 0, 1) := by decide +kernel
theorem dX10_mayBe_100 : decode cX10_mayBe 100 = .ok (.ireturn, 1) := by decide +kernel
theorem dX10_judge_0 : decode cX10_judge 0 = .ok (.iconst 0, 1) := by decide +kernel
theorem dX10_judge_1 : decode cX10_judge 1 = .ok (.istore_n 1, 1) := by decide +kernel
theorem dX10_judge_2 : decode cX10_judge 2 = .ok (.iload_n 1, 1) := by decide +kernel
theorem dX10_judge_3 : decode cX10_judge 3 = .ok (.aload_n 0, 1) := by decide +kernel
theorem dX10_judge_4 : decode cX10_judge 4 = .ok (.getfield 229, 3) := by decide +kernel
theorem dX10_judge_7 : decode cX10_judge 7 = .ok (.if_icmp .ge 19, 3) := by decide +kernel
theorem dX10_judge_10 : decode cX10_judge 10 = .ok (.aload_n 0, 1) := by decide +kernel
theorem dX10_judge_11 : decode cX10_judge 11 = .ok (.iload_n 1, 1) := by decide +kernel
theorem dX10_judge_12 : decode cX10_judge 12 = .ok (.invokevirtual 352, 3) := by decide +kernel
theorem dX10_judge_15 : decode cX10_judge 15 = .ok (.ifCond .ne 5, 3) := by decide +kernel
theorem dX10_judge_18 : decode cX10_judge 18 = .ok (.iload_n 1, 1) := by decide +kernel
theorem dX10_judge_19 : decode cX10_judge 19 = .ok (.ireturn, 1) := by decide +kernel
theorem dX10_judge_20 : decode cX10_judge 20 = .ok (.iinc 1 1, 3) := by decide +kernel
theorem dX10_judge_23 : decode cX10_judge 23 = .ok (.goto (-21), 3) := by decide +kernel
theorem dX10_judge_26 : decode cX10_judge 26 = .ok (.iconst (-1), 1) := by decide +kernel
theorem dX10_judge_27 : decode cX10_judge 27 = .ok (.ireturn, 1) := by decide +kernel
theorem dX10_draw_0 : decode cX10_draw 0 = .ok (.aload_n 0, 1) := by decide +kernel
theorem dX10_draw_1 : decode cX10_draw 1 = .ok (.aload_n 0, 1) := by decide +kernel
theorem dX10_draw_2 : decode cX10_draw 2 = .ok (.getfield 355, 3) := by decide +kernel
theorem dX10_draw_5 : decode cX10_draw 5 = .ok (.i2l, 1) := by decide +kernel
theorem dX10_draw_6 : decode cX10_draw 6 = .ok (.ldc2_w 358, 3) := by decide +kernel
theorem dX10_draw_9 : decode cX10_draw 9 = .ok (.lmul, 1) := by decide +kernel
theorem dX10_draw_10 : decode cX10_draw 10 = .ok (.ldc2_w 360, 3) := by decide +kernel
theorem dX10_draw_13 : decode cX10_draw 13 = .ok (.ladd, 1) := by decide +kernel
theorem dX10_draw_14 : decode cX10_draw 14 = .ok (.ldc2_w 362, 3) := by decide +kernel
theorem dX10_draw_17 : decode cX10_draw 17 = .ok (.lrem, 1) := by decide +kernel
theorem dX10_draw_18 : decode cX10_draw 18 = .ok (.l2i, 1) := by decide +kernel
theorem dX10_draw_19 : decode cX10_draw 19 = .ok (.putfield 355, 3) := by decide +kernel
theorem dX10_draw_22 : decode cX10_draw 22 = .ok (.aload_n 0, 1) := by decide +kernel
theorem dX10_draw_23 : decode cX10_draw 23 = .ok (.getfield 355, 3) := by decide +kernel
theorem dX10_draw_26 : decode cX10_draw 26 = .ok (.ldc_w 364, 3) := by decide +kernel
theorem dX10_draw_29 : decode cX10_draw 29 = .ok (.idiv, 1) := by decide +kernel
theorem dX10_draw_30 : decode cX10_draw 30 = .ok (.iload_n 1, 1) := by decide +kernel
theorem dX10_draw_31 : decode cX10_draw 31 = .ok (.irem, 1) := by decide +kernel
theorem dX10_draw_32 : decode cX10_draw 32 = .ok (.ireturn, 1) := by decide +kernel
theorem dX10_strangerBy_0 : decode cX10_strangerBy 0 = .ok (.aload_n 0, 1) := by decide +kernel
theorem dX10_strangerBy_1 : decode cX10_strangerBy 1 = .ok (.aload_n 0, 1) := by decide +kernel
theorem dX10_strangerBy_2 : decode cX10_strangerBy 2 = .ok (.getfield 121, 3) := by decide +kernel
theorem dX10_strangerBy_5 : decode cX10_strangerBy 5 = .ok (.invokevirtual 365, 3) := by decide +kernel
theorem dX10_strangerBy_8 : decode cX10_strangerBy 8 = .ok (.istore_n 1, 1) := by decide +kernel
theorem dX10_strangerBy_9 : decode cX10_strangerBy 9 = .ok (.aload_n 0, 1) := by decide +kernel
theorem dX10_strangerBy_10 : decode cX10_strangerBy 10 = .ok (.aload_n 0, 1) := by decide +kernel
theorem dX10_strangerBy_11 : decode cX10_strangerBy 11 = .ok (.getfield 121, 3) := by decide +kernel
theorem dX10_strangerBy_14 : decode cX10_strangerBy 14 = .ok (.invokevirtual 365, 3) := by decide +kernel
theorem dX10_strangerBy_17 : decode cX10_strangerBy 17 = .ok (.istore_n 2, 1) := by decide +kernel
theorem dX10_strangerBy_18 : decode cX10_strangerBy 18 = .ok (.aload_n 0, 1) := by decide +kernel
theorem dX10_strangerBy_19 : decode cX10_strangerBy 19 = .ok (.iload_n 2, 1) := by decide +kernel
theorem dX10_strangerBy_20 : decode cX10_strangerBy 20 = .ok (.iconst 0, 1) := by decide +kernel
theorem dX10_strangerBy_21 : decode cX10_strangerBy 21 = .ok (.invokevirtual 295, 3) := by decide +kernel
theorem dX10_strangerBy_24 : decode cX10_strangerBy 24 = .ok (.iconst 0, 1) := by decide +kernel
theorem dX10_strangerBy_25 : decode cX10_strangerBy 25 = .ok (.istore_n 3, 1) := by decide +kernel
theorem dX10_strangerBy_26 : decode cX10_strangerBy 26 = .ok (.iconst 0, 1) := by decide +kernel
theorem dX10_strangerBy_27 : decode cX10_strangerBy 27 = .ok (.istore 4, 2) := by decide +kernel
theorem dX10_strangerBy_29 : decode cX10_strangerBy 29 = .ok (.iload_n 1, 1) := by decide +kernel
theorem dX10_strangerBy_30 : decode cX10_strangerBy 30 = .ok (.iload_n 2, 1) := by decide +kernel
theorem dX10_strangerBy_31 : decode cX10_strangerBy 31 = .ok (.if_icmp .eq 102, 3) := by decide +kernel
theorem dX10_strangerBy_34 : decode cX10_strangerBy 34 = .ok (.aload_n 0, 1) := by decide +kernel
theorem dX10_strangerBy_35 : decode cX10_strangerBy 35 = .ok (.iload_n 3, 1) := by decide +kernel
theorem dX10_strangerBy_36 : decode cX10_strangerBy 36 = .ok (.iload_n 1, 1) := by decide +kernel
theorem dX10_strangerBy_37 : decode cX10_strangerBy 37 = .ok (.invokevirtual 320, 3) := by decide +kernel
theorem dX10_strangerBy_40 : decode cX10_strangerBy 40 = .ok (.istore 5, 2) := by decide +kernel
theorem dX10_strangerBy_42 : decode cX10_strangerBy 42 = .ok (.iload 5, 2) := by decide +kernel
theorem dX10_strangerBy_44 : decode cX10_strangerBy 44 = .ok (.ifCond .ne 5, 3) := by decide +kernel
theorem dX10_strangerBy_47 : decode cX10_strangerBy 47 = .ok (.iconst (-1), 1) := by decide +kernel
theorem dX10_strangerBy_48 : decode cX10_strangerBy 48 = .ok (.ireturn, 1) := by decide +kernel
theorem dX10_strangerBy_49 : decode cX10_strangerBy 49 = .ok (.aload_n 0, 1) := by decide +kernel
theorem dX10_strangerBy_50 : decode cX10_strangerBy 50 = .ok (.iload 5, 2) := by decide +kernel
theorem dX10_strangerBy_52 : decode cX10_strangerBy 52 = .ok (.invokevirtual 365, 3) := by decide +kernel
theorem dX10_strangerBy_55 : decode cX10_strangerBy 55 = .ok (.istore 6, 2) := by decide +kernel
theorem dX10_strangerBy_57 : decode cX10_strangerBy 57 = .ok (.iconst 0, 1) := by decide +kernel
theorem dX10_strangerBy_58 : decode cX10_strangerBy 58 = .ok (.istore 7, 2) := by decide +kernel
theorem dX10_strangerBy_60 : decode cX10_strangerBy 60 = .ok (.aload_n 0, 1) := by decide +kernel
theorem dX10_strangerBy_61 : decode cX10_strangerBy 61 = .ok (.iload 7, 2) := by decide +kernel
theorem dX10_strangerBy_63 : decode cX10_strangerBy 63 = .ok (.iload_n 3, 1) := by decide +kernel
theorem dX10_strangerBy_64 : decode cX10_strangerBy 64 = .ok (.iload_n 1, 1) := by decide +kernel
theorem dX10_strangerBy_65 : decode cX10_strangerBy 65 = .ok (.invokevirtual 299, 3) := by decide +kernel
theorem dX10_strangerBy_68 : decode cX10_strangerBy 68 = .ok (.ifCond .eq 8, 3) := by decide +kernel
theorem dX10_strangerBy_71 : decode cX10_strangerBy 71 = .ok (.iload 6, 2) := by decide +kernel
theorem dX10_strangerBy_73 : decode cX10_strangerBy 73 = .ok (.ifCond .le 30, 3) := by decide +kernel
theorem dX10_strangerBy_76 : decode cX10_strangerBy 76 = .ok (.iload 6, 2) := by decide +kernel
theorem dX10_strangerBy_78 : decode cX10_strangerBy 78 = .ok (.aload_n 0, 1) := by decide +kernel
theorem dX10_strangerBy_79 : decode cX10_strangerBy 79 = .ok (.iload 7, 2) := by decide +kernel
theorem dX10_strangerBy_81 : decode cX10_strangerBy 81 = .ok (.iload_n 3, 1) := by decide +kernel
theorem dX10_strangerBy_82 : decode cX10_strangerBy 82 = .ok (.iload_n 1, 1) := by decide +kernel
theorem dX10_strangerBy_83 : decode cX10_strangerBy 83 = .ok (.invokevirtual 299, 3) := by decide +kernel
theorem dX10_strangerBy_86 : decode cX10_strangerBy 86 = .ok (.ifCond .eq 7, 3) := by decide +kernel
theorem dX10_strangerBy_89 : decode cX10_strangerBy 89 = .ok (.iconst 1, 1) := by decide +kernel
theorem dX10_strangerBy_90 : decode cX10_strangerBy 90 = .ok (.goto 4, 3) := by decide +kernel
theorem dX10_strangerBy_93 : decode cX10_strangerBy 93 = .ok (.iconst 0, 1) := by decide +kernel
theorem dX10_strangerBy_94 : decode cX10_strangerBy 94 = .ok (.isub, 1) := by decide +kernel
theorem dX10_strangerBy_95 : decode cX10_strangerBy 95 = .ok (.istore 6, 2) := by decide +kernel
theorem dX10_strangerBy_97 : decode cX10_strangerBy 97 = .ok (.iinc 7 1, 3) := by decide +kernel
theorem dX10_strangerBy_100 : decode cX10_strangerBy 100 = .ok (.goto (-40), 3) := by decide +kernel
theorem dX10_strangerBy_103 : decode cX10_strangerBy 103 = .ok (.iload_n 3, 1) := by decide +kernel
theorem dX10_strangerBy_104 : decode cX10_strangerBy 104 = .ok (.iconst 1, 1) := by decide +kernel
theorem dX10_strangerBy_105 : decode cX10_strangerBy 105 = .ok (.iload 7, 2) := by decide +kernel
theorem dX10_strangerBy_107 : decode cX10_strangerBy 107 = .ok (.ishl, 1) := by decide +kernel
theorem dX10_strangerBy_108 : decode cX10_strangerBy 108 = .ok (.ior, 1) := by decide +kernel
theorem dX10_strangerBy_109 : decode cX10_strangerBy 109 = .ok (.istore_n 3, 1) := by decide +kernel
theorem dX10_strangerBy_110 : decode cX10_strangerBy 110 = .ok (.iload 4, 2) := by decide +kernel
theorem dX10_strangerBy_112 : decode cX10_strangerBy 112 = .ok (.aload_n 0, 1) := by decide +kernel
theorem dX10_strangerBy_113 : decode cX10_strangerBy 113 = .ok (.getfield 77, 3) := by decide +kernel
theorem dX10_strangerBy_116 : decode cX10_strangerBy 116 = .ok (.iload 7, 2) := by decide +kernel
theorem dX10_strangerBy_118 : decode cX10_strangerBy 118 = .ok (.iaload, 1) := by decide +kernel
theorem dX10_strangerBy_119 : decode cX10_strangerBy 119 = .ok (.iadd, 1) := by decide +kernel
theorem dX10_strangerBy_120 : decode cX10_strangerBy 120 = .ok (.istore 4, 2) := by decide +kernel
theorem dX10_strangerBy_122 : decode cX10_strangerBy 122 = .ok (.aload_n 0, 1) := by decide +kernel
theorem dX10_strangerBy_123 : decode cX10_strangerBy 123 = .ok (.getfield 74, 3) := by decide +kernel
theorem dX10_strangerBy_126 : decode cX10_strangerBy 126 = .ok (.iload 7, 2) := by decide +kernel
theorem dX10_strangerBy_128 : decode cX10_strangerBy 128 = .ok (.iaload, 1) := by decide +kernel
theorem dX10_strangerBy_129 : decode cX10_strangerBy 129 = .ok (.istore_n 1, 1) := by decide +kernel
theorem dX10_strangerBy_130 : decode cX10_strangerBy 130 = .ok (.goto (-101), 3) := by decide +kernel
theorem dX10_strangerBy_133 : decode cX10_strangerBy 133 = .ok (.iload 4, 2) := by decide +kernel
theorem dX10_strangerBy_135 : decode cX10_strangerBy 135 = .ok (.ireturn, 1) := by decide +kernel
theorem dX10_drift_0 : decode cX10_drift 0 = .ok (.iload_n 1, 1) := by decide +kernel
theorem dX10_drift_1 : decode cX10_drift 1 = .ok (.i2l, 1) := by decide +kernel
theorem dX10_drift_2 : decode cX10_drift 2 = .ok (.lconst 1, 1) := by decide +kernel
theorem dX10_drift_3 : decode cX10_drift 3 = .ok (.ldc2_w 368, 3) := by decide +kernel
theorem dX10_drift_6 : decode cX10_drift 6 = .ok (.invokestatic 124, 3) := by decide +kernel
theorem dX10_drift_9 : decode cX10_drift 9 = .ok (.ifCond .eq 13, 3) := by decide +kernel
theorem dX10_drift_12 : decode cX10_drift 12 = .ok (.iload_n 2, 1) := by decide +kernel
theorem dX10_drift_13 : decode cX10_drift 13 = .ok (.i2l, 1) := by decide +kernel
theorem dX10_drift_14 : decode cX10_drift 14 = .ok (.lconst 0, 1) := by decide +kernel
theorem dX10_drift_15 : decode cX10_drift 15 = .ok (.lconst 1, 1) := by decide +kernel
theorem dX10_drift_16 : decode cX10_drift 16 = .ok (.invokestatic 124, 3) := by decide +kernel
theorem dX10_drift_19 : decode cX10_drift 19 = .ok (.ifCond .ne 6, 3) := by decide +kernel
theorem dX10_drift_22 : decode cX10_drift 22 = .ok (.ldc 136, 2) := by decide +kernel
theorem dX10_drift_24 : decode cX10_drift 24 = .ok (.ireturn, 1) := by decide +kernel
theorem dX10_drift_25 : decode cX10_drift 25 = .ok (.aload_n 0, 1) := by decide +kernel
theorem dX10_drift_26 : decode cX10_drift 26 = .ok (.getfield 121, 3) := by decide +kernel
theorem dX10_drift_29 : decode cX10_drift 29 = .ok (.ifCond .ne 7, 3) := by decide +kernel
theorem dX10_drift_32 : decode cX10_drift 32 = .ok (.ldc_w 370, 3) := by decide +kernel
theorem dX10_drift_35 : decode cX10_drift 35 = .ok (.ireturn, 1) := by decide +kernel
theorem dX10_drift_36 : decode cX10_drift 36 = .ok (.iconst 0, 1) := by decide +kernel
theorem dX10_drift_37 : decode cX10_drift 37 = .ok (.istore_n 3, 1) := by decide +kernel
theorem dX10_drift_38 : decode cX10_drift 38 = .ok (.iconst 0, 1) := by decide +kernel
theorem dX10_drift_39 : decode cX10_drift 39 = .ok (.istore 4, 2) := by decide +kernel
theorem dX10_drift_41 : decode cX10_drift 41 = .ok (.iconst 0, 1) := by decide +kernel
theorem dX10_drift_42 : decode cX10_drift 42 = .ok (.istore 5, 2) := by decide +kernel
theorem dX10_drift_44 : decode cX10_drift 44 = .ok (.iload 5, 2) := by decide +kernel
theorem dX10_drift_46 : decode cX10_drift 46 = .ok (.iload_n 1, 1) := by decide +kernel
theorem dX10_drift_47 : decode cX10_drift 47 = .ok (.if_icmp .ge 44, 3) := by decide +kernel
theorem dX10_drift_50 : decode cX10_drift 50 = .ok (.aload_n 0, 1) := by decide +kernel
theorem dX10_drift_51 : decode cX10_drift 51 = .ok (.invokevirtual 371, 3) := by decide +kernel
theorem dX10_drift_54 : decode cX10_drift 54 = .ok (.istore 6, 2) := by decide +kernel
theorem dX10_drift_56 : decode cX10_drift 56 = .ok (.iload_n 3, 1) := by decide +kernel
theorem dX10_drift_57 : decode cX10_drift 57 = .ok (.iload 6, 2) := by decide +kernel
theorem dX10_drift_59 : decode cX10_drift 59 = .ok (.ifCond .lt 7, 3) := by decide +kernel
theorem dX10_drift_62 : decode cX10_drift 62 = .ok (.iconst 1, 1) := by decide +kernel
theorem dX10_drift_63 : decode cX10_drift 63 = .ok (.goto 4, 3) := by decide +kernel
theorem dX10_drift_66 : decode cX10_drift 66 = .ok (.iconst 0, 1) := by decide +kernel
theorem dX10_drift_67 : decode cX10_drift 67 = .ok (.iadd, 1) := by decide +kernel
theorem dX10_drift_68 : decode cX10_drift 68 = .ok (.istore_n 3, 1) := by decide +kernel
theorem dX10_drift_69 : decode cX10_drift 69 = .ok (.iload 4, 2) := by decide +kernel
theorem dX10_drift_71 : decode cX10_drift 71 = .ok (.iload 6, 2) := by decide +kernel
theorem dX10_drift_73 : decode cX10_drift 73 = .ok (.ifCond .lt 8, 3) := by decide +kernel
theorem dX10_drift_76 : decode cX10_drift 76 = .ok (.iload 6, 2) := by decide +kernel
theorem dX10_drift_78 : decode cX10_drift 78 = .ok (.goto 4, 3) := by decide +kernel
theorem dX10_drift_81 : decode cX10_drift 81 = .ok (.iconst 0, 1) := by decide +kernel
theorem dX10_drift_82 : decode cX10_drift 82 = .ok (.iadd, 1) := by decide +kernel
theorem dX10_drift_83 : decode cX10_drift 83 = .ok (.istore 4, 2) := by decide +kernel
theorem dX10_drift_85 : decode cX10_drift 85 = .ok (.iinc 5 1, 3) := by decide +kernel
theorem dX10_drift_88 : decode cX10_drift 88 = .ok (.goto (-44), 3) := by decide +kernel
theorem dX10_drift_91 : decode cX10_drift 91 = .ok (.iload_n 2, 1) := by decide +kernel
theorem dX10_drift_92 : decode cX10_drift 92 = .ok (.ifCond .ne 7, 3) := by decide +kernel
theorem dX10_drift_95 : decode cX10_drift 95 = .ok (.iload_n 3, 1) := by decide +kernel
theorem dX10_drift_96 : decode cX10_drift 96 = .ok (.goto 5, 3) := by decide +kernel
theorem dX10_drift_99 : decode cX10_drift 99 = .ok (.iload 4, 2) := by decide +kernel
theorem dX10_drift_101 : decode cX10_drift 101 = .ok (.ireturn, 1) := by decide +kernel
theorem dX10_seed_0 : decode cX10_seed 0 = .ok (.iload_n 1, 1) := by decide +kernel
theorem dX10_seed_1 : decode cX10_seed 1 = .ok (.ifCond .ge 6, 3) := by decide +kernel
theorem dX10_seed_4 : decode cX10_seed 4 = .ok (.ldc 136, 2) := by decide +kernel
theorem dX10_seed_6 : decode cX10_seed 6 = .ok (.ireturn, 1) := by decide +kernel
theorem dX10_seed_7 : decode cX10_seed 7 = .ok (.aload_n 0, 1) := by decide +kernel
theorem dX10_seed_8 : decode cX10_seed 8 = .ok (.getfield 355, 3) := by decide +kernel
theorem dX10_seed_11 : decode cX10_seed 11 = .ok (.istore_n 2, 1) := by decide +kernel
theorem dX10_seed_12 : decode cX10_seed 12 = .ok (.aload_n 0, 1) := by decide +kernel
theorem dX10_seed_13 : decode cX10_seed 13 = .ok (.iload_n 1, 1) := by decide +kernel
theorem dX10_seed_14 : decode cX10_seed 14 = .ok (.putfield 355, 3) := by decide +kernel
theorem dX10_seed_17 : decode cX10_seed 17 = .ok (.iload_n 2, 1) := by decide +kernel
theorem dX10_seed_18 : decode cX10_seed 18 = .ok (.ireturn, 1) := by decide +kernel
theorem dX10_keep_0 : decode cX10_keep 0 = .ok (.iload_n 1, 1) := by decide +kernel
theorem dX10_keep_1 : decode cX10_keep 1 = .ok (.i2l, 1) := by decide +kernel
theorem dX10_keep_2 : decode cX10_keep 2 = .ok (.lconst 0, 1) := by decide +kernel
theorem dX10_keep_3 : decode cX10_keep 3 = .ok (.lconst 1, 1) := by decide +kernel
theorem dX10_keep_4 : decode cX10_keep 4 = .ok (.invokestatic 124, 3) := by decide +kernel
theorem dX10_keep_7 : decode cX10_keep 7 = .ok (.ifCond .ne 6, 3) := by decide +kernel
theorem dX10_keep_10 : decode cX10_keep 10 = .ok (.ldc 242, 2) := by decide +kernel
theorem dX10_keep_12 : decode cX10_keep 12 = .ok (.ireturn, 1) := by decide +kernel
theorem dX10_keep_13 : decode cX10_keep 13 = .ok (.bipush 20, 2) := by decide +kernel
theorem dX10_keep_15 : decode cX10_keep 15 = .ok (.iload_n 1, 1) := by decide +kernel
theorem dX10_keep_16 : decode cX10_keep 16 = .ok (.imul, 1) := by decide +kernel
theorem dX10_keep_17 : decode cX10_keep 17 = .ok (.istore_n 2, 1) := by decide +kernel
theorem dX10_keep_18 : decode cX10_keep 18 = .ok (.iconst 0, 1) := by decide +kernel
theorem dX10_keep_19 : decode cX10_keep 19 = .ok (.istore_n 3, 1) := by decide +kernel
theorem dX10_keep_20 : decode cX10_keep 20 = .ok (.iload_n 3, 1) := by decide +kernel
theorem dX10_keep_21 : decode cX10_keep 21 = .ok (.bipush 6, 2) := by decide +kernel
theorem dX10_keep_23 : decode cX10_keep 23 = .ok (.if_icmp .ge 40, 3) := by decide +kernel
theorem dX10_keep_26 : decode cX10_keep 26 = .ok (.aload_n 0, 1) := by decide +kernel
theorem dX10_keep_27 : decode cX10_keep 27 = .ok (.getfield 114, 3) := by decide +kernel
theorem dX10_keep_30 : decode cX10_keep 30 = .ok (.iload_n 2, 1) := by decide +kernel
theorem dX10_keep_31 : decode cX10_keep 31 = .ok (.iload_n 3, 1) := by decide +kernel
theorem dX10_keep_32 : decode cX10_keep 32 = .ok (.iadd, 1) := by decide +kernel
theorem dX10_keep_33 : decode cX10_keep 33 = .ok (.aload_n 0, 1) := by decide +kernel
theorem dX10_keep_34 : decode cX10_keep 34 = .ok (.getfield 31, 3) := by decide +kernel
theorem dX10_keep_37 : decode cX10_keep 37 = .ok (.iload_n 3, 1) := by decide +kernel
theorem dX10_keep_38 : decode cX10_keep 38 = .ok (.iaload, 1) := by decide +kernel
theorem dX10_keep_39 : decode cX10_keep 39 = .ok (.iastore, 1) := by decide +kernel
theorem dX10_keep_40 : decode cX10_keep 40 = .ok (.aload_n 0, 1) := by decide +kernel
theorem dX10_keep_41 : decode cX10_keep 41 = .ok (.getfield 114, 3) := by decide +kernel
theorem dX10_keep_44 : decode cX10_keep 44 = .ok (.iload_n 2, 1) := by decide +kernel
theorem dX10_keep_45 : decode cX10_keep 45 = .ok (.bipush 6, 2) := by decide +kernel
theorem dX10_keep_47 : decode cX10_keep 47 = .ok (.iadd, 1) := by decide +kernel
theorem dX10_keep_48 : decode cX10_keep 48 = .ok (.iload_n 3, 1) := by decide +kernel
theorem dX10_keep_49 : decode cX10_keep 49 = .ok (.iadd, 1) := by decide +kernel
theorem dX10_keep_50 : decode cX10_keep 50 = .ok (.aload_n 0, 1) := by decide +kernel
theorem dX10_keep_51 : decode cX10_keep 51 = .ok (.getfield 28, 3) := by decide +kernel
theorem dX10_keep_54 : decode cX10_keep 54 = .ok (.iload_n 3, 1) := by decide +kernel
theorem dX10_keep_55 : decode cX10_keep 55 = .ok (.iaload, 1) := by decide +kernel
theorem dX10_keep_56 : decode cX10_keep 56 = .ok (.iastore, 1) := by decide +kernel
theorem dX10_keep_57 : decode cX10_keep 57 = .ok (.iinc 3 1, 3) := by decide +kernel
theorem dX10_keep_60 : decode cX10_keep 60 = .ok (.goto (-40), 3) := by decide +kernel
theorem dX10_keep_63 : decode cX10_keep 63 = .ok (.aload_n 0, 1) := by decide +kernel
theorem dX10_keep_64 : decode cX10_keep 64 = .ok (.getfield 114, 3) := by decide +kernel
theorem dX10_keep_67 : decode cX10_keep 67 = .ok (.iload_n 2, 1) := by decide +kernel
theorem dX10_keep_68 : decode cX10_keep 68 = .ok (.bipush 12, 2) := by decide +kernel
theorem dX10_keep_70 : decode cX10_keep 70 = .ok (.iadd, 1) := by decide +kernel
theorem dX10_keep_71 : decode cX10_keep 71 = .ok (.aload_n 0, 1) := by decide +kernel
theorem dX10_keep_72 : decode cX10_keep 72 = .ok (.getfield 235, 3) := by decide +kernel
theorem dX10_keep_75 : decode cX10_keep 75 = .ok (.iastore, 1) := by decide +kernel
theorem dX10_keep_76 : decode cX10_keep 76 = .ok (.aload_n 0, 1) := by decide +kernel
theorem dX10_keep_77 : decode cX10_keep 77 = .ok (.getfield 114, 3) := by decide +kernel
theorem dX10_keep_80 : decode cX10_keep 80 = .ok (.iload_n 2, 1) := by decide +kernel
theorem dX10_keep_81 : decode cX10_keep 81 = .ok (.bipush 13, 2) := by decide +kernel
theorem dX10_keep_83 : decode cX10_keep 83 = .ok (.iadd, 1) := by decide +kernel
theorem dX10_keep_84 : decode cX10_keep 84 = .ok (.aload_n 0, 1) := by decide +kernel
theorem dX10_keep_85 : decode cX10_keep 85 = .ok (.getfield 355, 3) := by decide +kernel
theorem dX10_keep_88 : decode cX10_keep 88 = .ok (.iastore, 1) := by decide +kernel
theorem dX10_keep_89 : decode cX10_keep 89 = .ok (.aload_n 0, 1) := by decide +kernel
theorem dX10_keep_90 : decode cX10_keep 90 = .ok (.getfield 117, 3) := by decide +kernel
theorem dX10_keep_93 : decode cX10_keep 93 = .ok (.iload_n 1, 1) := by decide +kernel
theorem dX10_keep_94 : decode cX10_keep 94 = .ok (.iconst 1, 1) := by decide +kernel
theorem dX10_keep_95 : decode cX10_keep 95 = .ok (.bastore, 1) := by decide +kernel
theorem dX10_keep_96 : decode cX10_keep 96 = .ok (.iconst 1, 1) := by decide +kernel
theorem dX10_keep_97 : decode cX10_keep 97 = .ok (.ireturn, 1) := by decide +kernel
theorem dX10_goBack_0 : decode cX10_goBack 0 = .ok (.iload_n 1, 1) := by decide +kernel
theorem dX10_goBack_1 : decode cX10_goBack 1 = .ok (.i2l, 1) := by decide +kernel
theorem dX10_goBack_2 : decode cX10_goBack 2 = .ok (.lconst 0, 1) := by decide +kernel
theorem dX10_goBack_3 : decode cX10_goBack 3 = .ok (.lconst 1, 1) := by decide +kernel
theorem dX10_goBack_4 : decode cX10_goBack 4 = .ok (.invokestatic 124, 3) := by decide +kernel
theorem dX10_goBack_7 : decode cX10_goBack 7 = .ok (.ifCond .ne 6, 3) := by decide +kernel
theorem dX10_goBack_10 : decode cX10_goBack 10 = .ok (.ldc 242, 2) := by decide +kernel
theorem dX10_goBack_12 : decode cX10_goBack 12 = .ok (.ireturn, 1) := by decide +kernel
theorem dX10_goBack_13 : decode cX10_goBack 13 = .ok (.aload_n 0, 1) := by decide +kernel
theorem dX10_goBack_14 : decode cX10_goBack 14 = .ok (.getfield 117, 3) := by decide +kernel
theorem dX10_goBack_17 : decode cX10_goBack 17 = .ok (.iload_n 1, 1) := by decide +kernel
theorem dX10_goBack_18 : decode cX10_goBack 18 = .ok (.baload, 1) := by decide +kernel
theorem dX10_goBack_19 : decode cX10_goBack 19 = .ok (.ifCond .ne 7, 3) := by decide +kernel
theorem dX10_goBack_22 : decode cX10_goBack 22 = .ok (.ldc_w 370, 3) := by decide +kernel
theorem dX10_goBack_25 : decode cX10_goBack 25 = .ok (.ireturn, 1) := by decide +kernel
theorem dX10_goBack_26 : decode cX10_goBack 26 = .ok (.bipush 20, 2) := by decide +kernel
theorem dX10_goBack_28 : decode cX10_goBack 28 = .ok (.iload_n 1, 1) := by decide +kernel
theorem dX10_goBack_29 : decode cX10_goBack 29 = .ok (.imul, 1) := by decide +kernel
theorem dX10_goBack_30 : decode cX10_goBack 30 = .ok (.istore_n 2, 1) := by decide +kernel
theorem dX10_goBack_31 : decode cX10_goBack 31 = .ok (.iconst 0, 1) := by decide +kernel
theorem dX10_goBack_32 : decode cX10_goBack 32 = .ok (.istore_n 3, 1) := by decide +kernel
theorem dX10_goBack_33 : decode cX10_goBack 33 = .ok (.iload_n 3, 1) := by decide +kernel
theorem dX10_goBack_34 : decode cX10_goBack 34 = .ok (.bipush 6, 2) := by decide +kernel
theorem dX10_goBack_36 : decode cX10_goBack 36 = .ok (.if_icmp .ge 40, 3) := by decide +kernel
theorem dX10_goBack_39 : decode cX10_goBack 39 = .ok (.aload_n 0, 1) := by decide +kernel
theorem dX10_goBack_40 : decode cX10_goBack 40 = .ok (.getfield 31, 3) := by decide +kernel
theorem dX10_goBack_43 : decode cX10_goBack 43 = .ok (.iload_n 3, 1) := by decide +kernel
theorem dX10_goBack_44 : decode cX10_goBack 44 = .ok (.aload_n 0, 1) := by decide +kernel
theorem dX10_goBack_45 : decode cX10_goBack 45 = .ok (.getfield 114, 3) := by decide +kernel
theorem dX10_goBack_48 : decode cX10_goBack 48 = .ok (.iload_n 2, 1) := by decide +kernel
theorem dX10_goBack_49 : decode cX10_goBack 49 = .ok (.iload_n 3, 1) := by decide +kernel
theorem dX10_goBack_50 : decode cX10_goBack 50 = .ok (.iadd, 1) := by decide +kernel
theorem dX10_goBack_51 : decode cX10_goBack 51 = .ok (.iaload, 1) := by decide +kernel
theorem dX10_goBack_52 : decode cX10_goBack 52 = .ok (.iastore, 1) := by decide +kernel
theorem dX10_goBack_53 : decode cX10_goBack 53 = .ok (.aload_n 0, 1) := by decide +kernel
theorem dX10_goBack_54 : decode cX10_goBack 54 = .ok (.getfield 28, 3) := by decide +kernel
theorem dX10_goBack_57 : decode cX10_goBack 57 = .ok (.iload_n 3, 1) := by decide +kernel
theorem dX10_goBack_58 : decode cX10_goBack 58 = .ok (.aload_n 0, 1) := by decide +kernel
theorem dX10_goBack_59 : decode cX10_goBack 59 = .ok (.getfield 114, 3) := by decide +kernel
theorem dX10_goBack_62 : decode cX10_goBack 62 = .ok (.iload_n 2, 1) := by decide +kernel
theorem dX10_goBack_63 : decode cX10_goBack 63 = .ok (.bipush 6, 2) := by decide +kernel
theorem dX10_goBack_65 : decode cX10_goBack 65 = .ok (.iadd, 1) := by decide +kernel
theorem dX10_goBack_66 : decode cX10_goBack 66 = .ok (.iload_n 3, 1) := by decide +kernel
theorem dX10_goBack_67 : decode cX10_goBack 67 = .ok (.iadd, 1) := by decide +kernel
theorem dX10_goBack_68 : decode cX10_goBack 68 = .ok (.iaload, 1) := by decide +kernel
theorem dX10_goBack_69 : decode cX10_goBack 69 = .ok (.iastore, 1) := by decide +kernel
theorem dX10_goBack_70 : decode cX10_goBack 70 = .ok (.iinc 3 1, 3) := by decide +kernel
theorem dX10_goBack_73 : decode cX10_goBack 73 = .ok (.goto (-40), 3) := by decide +kernel
theorem dX10_goBack_76 : decode cX10_goBack 76 = .ok (.aload_n 0, 1) := by decide +kernel
theorem dX10_goBack_77 : decode cX10_goBack 77 = .ok (.aload_n 0, 1) := by decide +kernel
theorem dX10_goBack_78 : decode cX10_goBack 78 = .ok (.getfield 114, 3) := by decide +kernel
theorem dX10_goBack_81 : decode cX10_goBack 81 = .ok (.iload_n 2, 1) := by decide +kernel
theorem dX10_goBack_82 : decode cX10_goBack 82 = .ok (.bipush 12, 2) := by decide +kernel
theorem dX10_goBack_84 : decode cX10_goBack 84 = .ok (.iadd, 1) := by decide +kernel
theorem dX10_goBack_85 : decode cX10_goBack 85 = .ok (.iaload, 1) := by decide +kernel
theorem dX10_goBack_86 : decode cX10_goBack 86 = .ok (.putfield 235, 3) := by decide +kernel
theorem dX10_goBack_89 : decode cX10_goBack 89 = .ok (.aload_n 0, 1) := by decide +kernel
theorem dX10_goBack_90 : decode cX10_goBack 90 = .ok (.aload_n 0, 1) := by decide +kernel
theorem dX10_goBack_91 : decode cX10_goBack 91 = .ok (.getfield 114, 3) := by decide +kernel
theorem dX10_goBack_94 : decode cX10_goBack 94 = .ok (.iload_n 2, 1) := by decide +kernel
theorem dX10_goBack_95 : decode cX10_goBack 95 = .ok (.bipush 13, 2) := by decide +kernel
theorem dX10_goBack_97 : decode cX10_goBack 97 = .ok (.iadd, 1) := by decide +kernel
theorem dX10_goBack_98 : decode cX10_goBack 98 = .ok (.iaload, 1) := by decide +kernel
theorem dX10_goBack_99 : decode cX10_goBack 99 = .ok (.putfield 355, 3) := by decide +kernel
theorem dX10_goBack_102 : decode cX10_goBack 102 = .ok (.iconst 1, 1) := by decide +kernel
theorem dX10_goBack_103 : decode cX10_goBack 103 = .ok (.ireturn, 1) := by decide +kernel
