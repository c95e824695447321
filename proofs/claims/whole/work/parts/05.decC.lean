theorem dX9_init_0 : decode cX9_init 0 = .ok (.aload_n 0, 1) := by decide +kernel
theorem dX9_init_1 : decode cX9_init 1 = .ok (.invokespecial 3, 3) := by decide +kernel
theorem dX9_init_4 : decode cX9_init 4 = .ok (.aload_n 0, 1) := by decide +kernel
theorem dX9_init_5 : decode cX9_init 5 = .ok (.new 9, 3) := by decide +kernel
theorem dX9_init_8 : decode cX9_init 8 = .ok (.dup, 1) := by decide +kernel
theorem dX9_init_9 : decode cX9_init 9 = .ok (.invokespecial 11, 3) := by decide +kernel
theorem dX9_init_12 : decode cX9_init 12 = .ok (.putfield 12, 3) := by decide +kernel
theorem dX9_init_15 : decode cX9_init 15 = .ok (.aload_n 0, 1) := by decide +kernel
theorem dX9_init_16 : decode cX9_init 16 = .ok (.new 16, 3) := by decide +kernel
theorem dX9_init_19 : decode cX9_init 19 = .ok (.dup, 1) := by decide +kernel
theorem dX9_init_20 : decode cX9_init 20 = .ok (.invokespecial 18, 3) := by decide +kernel
theorem dX9_init_23 : decode cX9_init 23 = .ok (.putfield 19, 3) := by decide +kernel
theorem dX9_init_26 : decode cX9_init 26 = .ok (.aload_n 0, 1) := by decide +kernel
theorem dX9_init_27 : decode cX9_init 27 = .ok (.new 23, 3) := by decide +kernel
theorem dX9_init_30 : decode cX9_init 30 = .ok (.dup, 1) := by decide +kernel
theorem dX9_init_31 : decode cX9_init 31 = .ok (.invokespecial 25, 3) := by decide +kernel
theorem dX9_init_34 : decode cX9_init 34 = .ok (.putfield 26, 3) := by decide +kernel
theorem dX9_init_37 : decode cX9_init 37 = .ok (.aload_n 0, 1) := by decide +kernel
theorem dX9_init_38 : decode cX9_init 38 = .ok (.new 30, 3) := by decide +kernel
theorem dX9_init_41 : decode cX9_init 41 = .ok (.dup, 1) := by decide +kernel
theorem dX9_init_42 : decode cX9_init 42 = .ok (.invokespecial 32, 3) := by decide +kernel
theorem dX9_init_45 : decode cX9_init 45 = .ok (.putfield 33, 3) := by decide +kernel
theorem dX9_init_48 : decode cX9_init 48 = .ok (.aload_n 0, 1) := by decide +kernel
theorem dX9_init_49 : decode cX9_init 49 = .ok (.bipush 10, 2) := by decide +kernel
theorem dX9_init_51 : decode cX9_init 51 = .ok (.anewarray 37, 3) := by decide +kernel
theorem dX9_init_54 : decode cX9_init 54 = .ok (.putfield 39, 3) := by decide +kernel
theorem dX9_init_57 : decode cX9_init 57 = .ok (.iconst 0, 1) := by decide +kernel
theorem dX9_init_58 : decode cX9_init 58 = .ok (.istore_n 1, 1) := by decide +kernel
theorem dX9_init_59 : decode cX9_init 59 = .ok (.iload_n 1, 1) := by decide +kernel
theorem dX9_init_60 : decode cX9_init 60 = .ok (.aload_n 0, 1) := by decide +kernel
theorem dX9_init_61 : decode cX9_init 61 = .ok (.getfield 39, 3) := by decide +kernel
theorem dX9_init_64 : decode cX9_init 64 = .ok (.arraylength, 1) := by decide +kernel
theorem dX9_init_65 : decode cX9_init 65 = .ok (.if_icmp .ge 30, 3) := by decide +kernel
theorem dX9_init_68 : decode cX9_init 68 = .ok (.aload_n 0, 1) := by decide +kernel
theorem dX9_init_69 : decode cX9_init 69 = .ok (.getfield 39, 3) := by decide +kernel
theorem dX9_init_72 : decode cX9_init 72 = .ok (.iload_n 1, 1) := by decide +kernel
theorem dX9_init_73 : decode cX9_init 73 = .ok (.new 37, 3) := by decide +kernel
theorem dX9_init_76 : decode cX9_init 76 = .ok (.dup, 1) := by decide +kernel
theorem dX9_init_77 : decode cX9_init 77 = .ok (.aload_n 0, 1) := by decide +kernel
theorem dX9_init_78 : decode cX9_init 78 = .ok (.getfield 26, 3) := by decide +kernel
theorem dX9_init_81 : decode cX9_init 81 = .ok (.aload_n 0, 1) := by decide +kernel
theorem dX9_init_82 : decode cX9_init 82 = .ok (.getfield 33, 3) := by decide +kernel
theorem dX9_init_85 : decode cX9_init 85 = .ok (.invokespecial 43, 3) := by decide +kernel
theorem dX9_init_88 : decode cX9_init 88 = .ok (.aastore, 1) := by decide +kernel
theorem dX9_init_89 : decode cX9_init 89 = .ok (.iinc 1 1, 3) := by decide +kernel
theorem dX9_init_92 : decode cX9_init 92 = .ok (.goto (-33), 3) := by decide +kernel
theorem dX9_init_95 : decode cX9_init 95 = .ok (.aload_n 0, 1) := by decide +kernel
theorem dX9_init_96 : decode cX9_init 96 = .ok (.new 46, 3) := by decide +kernel
theorem dX9_init_99 : decode cX9_init 99 = .ok (.dup, 1) := by decide +kernel
theorem dX9_init_100 : decode cX9_init 100 = .ok (.aload_n 0, 1) := by decide +kernel
theorem dX9_init_101 : decode cX9_init 101 = .ok (.getfield 26, 3) := by decide +kernel
theorem dX9_init_104 : decode cX9_init 104 = .ok (.new 37, 3) := by decide +kernel
theorem dX9_init_107 : decode cX9_init 107 = .ok (.dup, 1) := by decide +kernel
theorem dX9_init_108 : decode cX9_init 108 = .ok (.aload_n 0, 1) := by decide +kernel
theorem dX9_init_109 : decode cX9_init 109 = .ok (.getfield 26, 3) := by decide +kernel
theorem dX9_init_112 : decode cX9_init 112 = .ok (.aload_n 0, 1) := by decide +kernel
theorem dX9_init_113 : decode cX9_init 113 = .ok (.getfield 33, 3) := by decide +kernel
theorem dX9_init_116 : decode cX9_init 116 = .ok (.invokespecial 43, 3) := by decide +kernel
theorem dX9_init_119 : decode cX9_init 119 = .ok (.invokespecial 48, 3) := by decide +kernel
theorem dX9_init_122 : decode cX9_init 122 = .ok (.putfield 51, 3) := by decide +kernel
theorem dX9_init_125 : decode cX9_init 125 = .ok (.aload_n 0, 1) := by decide +kernel
theorem dX9_init_126 : decode cX9_init 126 = .ok (.new 55, 3) := by decide +kernel
theorem dX9_init_129 : decode cX9_init 129 = .ok (.dup, 1) := by decide +kernel
theorem dX9_init_130 : decode cX9_init 130 = .ok (.invokespecial 57, 3) := by decide +kernel
theorem dX9_init_133 : decode cX9_init 133 = .ok (.putfield 58, 3) := by decide +kernel
theorem dX9_init_136 : decode cX9_init 136 = .ok (.aload_n 0, 1) := by decide +kernel
theorem dX9_init_137 : decode cX9_init 137 = .ok (.new 62, 3) := by decide +kernel
theorem dX9_init_140 : decode cX9_init 140 = .ok (.dup, 1) := by decide +kernel
theorem dX9_init_141 : decode cX9_init 141 = .ok (.invokespecial 64, 3) := by decide +kernel
theorem dX9_init_144 : decode cX9_init 144 = .ok (.putfield 65, 3) := by decide +kernel
theorem dX9_init_147 : decode cX9_init 147 = .ok (.aload_n 0, 1) := by decide +kernel
theorem dX9_init_148 : decode cX9_init 148 = .ok (.iconst 2, 1) := by decide +kernel
theorem dX9_init_149 : decode cX9_init 149 = .ok (.anewarray 69, 3) := by decide +kernel
theorem dX9_init_152 : decode cX9_init 152 = .ok (.putfield 71, 3) := by decide +kernel
theorem dX9_init_155 : decode cX9_init 155 = .ok (.iconst 0, 1) := by decide +kernel
theorem dX9_init_156 : decode cX9_init 156 = .ok (.istore_n 1, 1) := by decide +kernel
theorem dX9_init_157 : decode cX9_init 157 = .ok (.iload_n 1, 1) := by decide +kernel
theorem dX9_init_158 : decode cX9_init 158 = .ok (.aload_n 0, 1) := by decide +kernel
theorem dX9_init_159 : decode cX9_init 159 = .ok (.getfield 71, 3) := by decide +kernel
theorem dX9_init_162 : decode cX9_init 162 = .ok (.arraylength, 1) := by decide +kernel
theorem dX9_init_163 : decode cX9_init 163 = .ok (.if_icmp .ge 22, 3) := by decide +kernel
theorem dX9_init_166 : decode cX9_init 166 = .ok (.aload_n 0, 1) := by decide +kernel
theorem dX9_init_167 : decode cX9_init 167 = .ok (.getfield 71, 3) := by decide +kernel
theorem dX9_init_170 : decode cX9_init 170 = .ok (.iload_n 1, 1) := by decide +kernel
theorem dX9_init_171 : decode cX9_init 171 = .ok (.new 69, 3) := by decide +kernel
theorem dX9_init_174 : decode cX9_init 174 = .ok (.dup, 1) := by decide +kernel
theorem dX9_init_175 : decode cX9_init 175 = .ok (.invokespecial 75, 3) := by decide +kernel
theorem dX9_init_178 : decode cX9_init 178 = .ok (.aastore, 1) := by decide +kernel
theorem dX9_init_179 : decode cX9_init 179 = .ok (.iinc 1 1, 3) := by decide +kernel
theorem dX9_init_182 : decode cX9_init 182 = .ok (.goto (-25), 3) := by decide +kernel
theorem dX9_init_185 : decode cX9_init 185 = .ok (.return_, 1) := by decide +kernel
theorem dX9_feed_0 : decode cX9_feed 0 = .ok (.iload_n 1, 1) := by decide +kernel
theorem dX9_feed_1 : decode cX9_feed 1 = .ok (.iconst 1, 1) := by decide +kernel
theorem dX9_feed_2 : decode cX9_feed 2 = .ok (.if_icmp .lt 9, 3) := by decide +kernel
theorem dX9_feed_5 : decode cX9_feed 5 = .ok (.iload_n 1, 1) := by decide +kernel
theorem dX9_feed_6 : decode cX9_feed 6 = .ok (.bipush 8, 2) := by decide +kernel
theorem dX9_feed_8 : decode cX9_feed 8 = .ok (.if_icmp .le 6, 3) := by decide +kernel
theorem dX9_feed_11 : decode cX9_feed 11 = .ok (.ldc 76, 2) := by decide +kernel
theorem dX9_feed_13 : decode cX9_feed 13 = .ok (.ireturn, 1) := by decide +kernel
theorem dX9_feed_14 : decode cX9_feed 14 = .ok (.aload_n 0, 1) := by decide +kernel
theorem dX9_feed_15 : decode cX9_feed 15 = .ok (.getfield 12, 3) := by decide +kernel
theorem dX9_feed_18 : decode cX9_feed 18 = .ok (.getfield 77, 3) := by decide +kernel
theorem dX9_feed_21 : decode cX9_feed 21 = .ok (.iload_n 1, 1) := by decide +kernel
theorem dX9_feed_22 : decode cX9_feed 22 = .ok (.iadd, 1) := by decide +kernel
theorem dX9_feed_23 : decode cX9_feed 23 = .ok (.sipush 400, 3) := by decide +kernel
theorem dX9_feed_26 : decode cX9_feed 26 = .ok (.if_icmp .le 6, 3) := by decide +kernel
theorem dX9_feed_29 : decode cX9_feed 29 = .ok (.ldc 81, 2) := by decide +kernel
theorem dX9_feed_31 : decode cX9_feed 31 = .ok (.ireturn, 1) := by decide +kernel
theorem dX9_feed_32 : decode cX9_feed 32 = .ok (.aload_n 0, 1) := by decide +kernel
theorem dX9_feed_33 : decode cX9_feed 33 = .ok (.getfield 12, 3) := by decide +kernel
theorem dX9_feed_36 : decode cX9_feed 36 = .ok (.iload_n 1, 1) := by decide +kernel
theorem dX9_feed_37 : decode cX9_feed 37 = .ok (.lload_n 2, 1) := by decide +kernel
theorem dX9_feed_38 : decode cX9_feed 38 = .ok (.invokevirtual 82, 3) := by decide +kernel
theorem dX9_feed_41 : decode cX9_feed 41 = .ok (.aload_n 0, 1) := by decide +kernel
theorem dX9_feed_42 : decode cX9_feed 42 = .ok (.getfield 12, 3) := by decide +kernel
theorem dX9_feed_45 : decode cX9_feed 45 = .ok (.getfield 77, 3) := by decide +kernel
theorem dX9_feed_48 : decode cX9_feed 48 = .ok (.ireturn, 1) := by decide +kernel
theorem dX9_land_0 : decode cX9_land 0 = .ok (.aload_n 0, 1) := by decide +kernel
theorem dX9_land_1 : decode cX9_land 1 = .ok (.getfield 19, 3) := by decide +kernel
theorem dX9_land_4 : decode cX9_land 4 = .ok (.aload_n 0, 1) := by decide +kernel
theorem dX9_land_5 : decode cX9_land 5 = .ok (.getfield 12, 3) := by decide +kernel
theorem dX9_land_8 : decode cX9_land 8 = .ok (.invokevirtual 86, 3) := by decide +kernel
theorem dX9_land_11 : decode cX9_land 11 = .ok (.istore_n 1, 1) := by decide +kernel
theorem dX9_land_12 : decode cX9_land 12 = .ok (.aload_n 0, 1) := by decide +kernel
theorem dX9_land_13 : decode cX9_land 13 = .ok (.getfield 12, 3) := by decide +kernel
theorem dX9_land_16 : decode cX9_land 16 = .ok (.iconst 0, 1) := by decide +kernel
theorem dX9_land_17 : decode cX9_land 17 = .ok (.putfield 77, 3) := by decide +kernel
theorem dX9_land_20 : decode cX9_land 20 = .ok (.iload_n 1, 1) := by decide +kernel
theorem dX9_land_21 : decode cX9_land 21 = .ok (.ifCond .eq 8, 3) := by decide +kernel
theorem dX9_land_24 : decode cX9_land 24 = .ok (.bipush (-10), 2) := by decide +kernel
theorem dX9_land_26 : decode cX9_land 26 = .ok (.iload_n 1, 1) := by decide +kernel
theorem dX9_land_27 : decode cX9_land 27 = .ok (.isub, 1) := by decide +kernel
theorem dX9_land_28 : decode cX9_land 28 = .ok (.ireturn, 1) := by decide +kernel
theorem dX9_land_29 : decode cX9_land 29 = .ok (.aload_n 0, 1) := by decide +kernel
theorem dX9_land_30 : decode cX9_land 30 = .ok (.getfield 26, 3) := by decide +kernel
theorem dX9_land_33 : decode cX9_land 33 = .ok (.aload_n 0, 1) := by decide +kernel
theorem dX9_land_34 : decode cX9_land 34 = .ok (.getfield 19, 3) := by decide +kernel
theorem dX9_land_37 : decode cX9_land 37 = .ok (.getfield 90, 3) := by decide +kernel
theorem dX9_land_40 : decode cX9_land 40 = .ok (.invokevirtual 93, 3) := by decide +kernel
theorem dX9_land_43 : decode cX9_land 43 = .ok (.aload_n 0, 1) := by decide +kernel
theorem dX9_land_44 : decode cX9_land 44 = .ok (.getfield 65, 3) := by decide +kernel
theorem dX9_land_47 : decode cX9_land 47 = .ok (.invokevirtual 97, 3) := by decide +kernel
theorem dX9_land_50 : decode cX9_land 50 = .ok (.iconst 0, 1) := by decide +kernel
theorem dX9_land_51 : decode cX9_land 51 = .ok (.istore_n 2, 1) := by decide +kernel
theorem dX9_land_52 : decode cX9_land 52 = .ok (.iload_n 2, 1) := by decide +kernel
theorem dX9_land_53 : decode cX9_land 53 = .ok (.aload_n 0, 1) := by decide +kernel
theorem dX9_land_54 : decode cX9_land 54 = .ok (.getfield 71, 3) := by decide +kernel
theorem dX9_land_57 : decode cX9_land 57 = .ok (.arraylength, 1) := by decide +kernel
theorem dX9_land_58 : decode cX9_land 58 = .ok (.if_icmp .ge 19, 3) := by decide +kernel
theorem dX9_land_61 : decode cX9_land 61 = .ok (.aload_n 0, 1) := by decide +kernel
theorem dX9_land_62 : decode cX9_land 62 = .ok (.getfield 71, 3) := by decide +kernel
theorem dX9_land_65 : decode cX9_land 65 = .ok (.iload_n 2, 1) := by decide +kernel
theorem dX9_land_66 : decode cX9_land 66 = .ok (.aaload, 1) := by decide +kernel
theorem dX9_land_67 : decode cX9_land 67 = .ok (.iconst 0, 1) := by decide +kernel
theorem dX9_land_68 : decode cX9_land 68 = .ok (.putfield 100, 3) := by decide +kernel
theorem dX9_land_71 : decode cX9_land 71 = .ok (.iinc 2 1, 3) := by decide +kernel
theorem dX9_land_74 : decode cX9_land 74 = .ok (.goto (-22), 3) := by decide +kernel
theorem dX9_land_77 : decode cX9_land 77 = .ok (.aload_n 0, 1) := by decide +kernel
theorem dX9_land_78 : decode cX9_land 78 = .ok (.getfield 26, 3) := by decide +kernel
theorem dX9_land_81 : decode cX9_land 81 = .ok (.getfield 104, 3) := by decide +kernel
theorem dX9_land_84 : decode cX9_land 84 = .ok (.ireturn, 1) := by decide +kernel
theorem dX9_fault_0 : decode cX9_fault 0 = .ok (.aload_n 0, 1) := by decide +kernel
theorem dX9_fault_1 : decode cX9_fault 1 = .ok (.getfield 19, 3) := by decide +kernel
theorem dX9_fault_4 : decode cX9_fault 4 = .ok (.getfield 107, 3) := by decide +kernel
theorem dX9_fault_7 : decode cX9_fault 7 = .ok (.ireturn, 1) := by decide +kernel
theorem dX9_told_0 : decode cX9_told 0 = .ok (.iload_n 1, 1) := by decide +kernel
theorem dX9_told_1 : decode cX9_told 1 = .ok (.tableswitch 96 0 6 #[43, 51, 59, 67, 75, 80, 88], 43) := by decide +kernel
theorem dX9_told_44 : decode cX9_told 44 = .ok (.aload_n 0, 1) := by decide +kernel
theorem dX9_told_45 : decode cX9_told 45 = .ok (.getfield 26, 3) := by decide +kernel
theorem dX9_told_48 : decode cX9_told 48 = .ok (.getfield 104, 3) := by decide +kernel
theorem dX9_told_51 : decode cX9_told 51 = .ok (.ireturn, 1) := by decide +kernel
theorem dX9_told_52 : decode cX9_told 52 = .ok (.aload_n 0, 1) := by decide +kernel
theorem dX9_told_53 : decode cX9_told 53 = .ok (.getfield 26, 3) := by decide +kernel
theorem dX9_told_56 : decode cX9_told 56 = .ok (.getfield 110, 3) := by decide +kernel
theorem dX9_told_59 : decode cX9_told 59 = .ok (.ireturn, 1) := by decide +kernel
theorem dX9_told_60 : decode cX9_told 60 = .ok (.aload_n 0, 1) := by decide +kernel
theorem dX9_told_61 : decode cX9_told 61 = .ok (.getfield 26, 3) := by decide +kernel
theorem dX9_told_64 : decode cX9_told 64 = .ok (.getfield 113, 3) := by decide +kernel
theorem dX9_told_67 : decode cX9_told 67 = .ok (.ireturn, 1) := by decide +kernel
theorem dX9_told_68 : decode cX9_told 68 = .ok (.aload_n 0, 1) := by decide +kernel
theorem dX9_told_69 : decode cX9_told 69 = .ok (.getfield 12, 3) := by decide +kernel
theorem dX9_told_72 : decode cX9_told 72 = .ok (.getfield 77, 3) := by decide +kernel
theorem dX9_told_75 : decode cX9_told 75 = .ok (.ireturn, 1) := by decide +kernel
theorem dX9_told_76 : decode cX9_told 76 = .ok (.aload_n 0, 1) := by decide +kernel
theorem dX9_told_77 : decode cX9_told 77 = .ok (.getfield 116, 3) := by decide +kernel
theorem dX9_told_80 : decode cX9_told 80 = .ok (.ireturn, 1) := by decide +kernel
theorem dX9_told_81 : decode cX9_told 81 = .ok (.aload_n 0, 1) := by decide +kernel
theorem dX9_told_82 : decode cX9_told 82 = .ok (.getfield 65, 3) := by decide +kernel
theorem dX9_told_85 : decode cX9_told 85 = .ok (.getfield 119, 3) := by decide +kernel
theorem dX9_told_88 : decode cX9_told 88 = .ok (.ireturn, 1) := by decide +kernel
theorem dX9_told_89 : decode cX9_told 89 = .ok (.aload_n 0, 1) := by decide +kernel
theorem dX9_told_90 : decode cX9_told 90 = .ok (.getfield 65, 3) := by decide +kernel
theorem dX9_told_93 : decode cX9_told 93 = .ok (.getfield 122, 3) := by decide +kernel
theorem dX9_told_96 : decode cX9_told 96 = .ok (.ireturn, 1) := by decide +kernel
theorem dX9_told_97 : decode cX9_told 97 = .ok (.ldc 76, 2) := by decide +kernel
theorem dX9_told_99 : decode cX9_told 99 = .ok (.ireturn, 1) := by decide +kernel
theorem dX9_way_0 : decode cX9_way 0 = .ok (.aload_n 0, 1) := by decide +kernel
theorem dX9_way_1 : decode cX9_way 1 = .ok (.getfield 26, 3) := by decide +kernel
theorem dX9_way_4 : decode cX9_way 4 = .ok (.iload_n 1, 1) := by decide +kernel
theorem dX9_way_5 : decode cX9_way 5 = .ok (.invokevirtual 125, 3) := by decide +kernel
theorem dX9_way_8 : decode cX9_way 8 = .ok (.ifCond .ne 6, 3) := by decide +kernel
theorem dX9_way_11 : decode cX9_way 11 = .ok (.ldc 129, 2) := by decide +kernel
theorem dX9_way_13 : decode cX9_way 13 = .ok (.ireturn, 1) := by decide +kernel
theorem dX9_way_14 : decode cX9_way 14 = .ok (.iload_n 2, 1) := by decide +kernel
theorem dX9_way_15 : decode cX9_way 15 = .ok (.tableswitch 61 0 2 #[25, 37, 49], 25) := by decide +kernel
theorem dX9_way_40 : decode cX9_way 40 = .ok (.aload_n 0, 1) := by decide +kernel
theorem dX9_way_41 : decode cX9_way 41 = .ok (.getfield 26, 3) := by decide +kernel
theorem dX9_way_44 : decode cX9_way 44 = .ok (.getfield 130, 3) := by decide +kernel
theorem dX9_way_47 : decode cX9_way 47 = .ok (.iload_n 1, 1) := by decide +kernel
theorem dX9_way_48 : decode cX9_way 48 = .ok (.invokestatic 134, 3) := by decide +kernel
theorem dX9_way_51 : decode cX9_way 51 = .ok (.ireturn, 1) := by decide +kernel
theorem dX9_way_52 : decode cX9_way 52 = .ok (.aload_n 0, 1) := by decide +kernel
theorem dX9_way_53 : decode cX9_way 53 = .ok (.getfield 26, 3) := by decide +kernel
theorem dX9_way_56 : decode cX9_way 56 = .ok (.getfield 138, 3) := by decide +kernel
theorem dX9_way_59 : decode cX9_way 59 = .ok (.iload_n 1, 1) := by decide +kernel
theorem dX9_way_60 : decode cX9_way 60 = .ok (.invokestatic 134, 3) := by decide +kernel
theorem dX9_way_63 : decode cX9_way 63 = .ok (.ireturn, 1) := by decide +kernel
theorem dX9_way_64 : decode cX9_way 64 = .ok (.aload_n 0, 1) := by decide +kernel
theorem dX9_way_65 : decode cX9_way 65 = .ok (.getfield 26, 3) := by decide +kernel
theorem dX9_way_68 : decode cX9_way 68 = .ok (.getfield 141, 3) := by decide +kernel
theorem dX9_way_71 : decode cX9_way 71 = .ok (.iload_n 1, 1) := by decide +kernel
theorem dX9_way_72 : decode cX9_way 72 = .ok (.invokestatic 134, 3) := by decide +kernel
theorem dX9_way_75 : decode cX9_way 75 = .ok (.ireturn, 1) := by decide +kernel
theorem dX9_way_76 : decode cX9_way 76 = .ok (.ldc 76, 2) := by decide +kernel
theorem dX9_way_78 : decode cX9_way 78 = .ok (.ireturn, 1) := by decide +kernel
theorem dX9_person_0 : decode cX9_person 0 = .ok (.aload_n 0, 1) := by decide +kernel
theorem dX9_person_1 : decode cX9_person 1 = .ok (.getfield 26, 3) := by decide +kernel
theorem dX9_person_4 : decode cX9_person 4 = .ok (.iload_n 1, 1) := by decide +kernel
theorem dX9_person_5 : decode cX9_person 5 = .ok (.invokevirtual 144, 3) := by decide +kernel
theorem dX9_person_8 : decode cX9_person 8 = .ok (.ifCond .ne 6, 3) := by decide +kernel
theorem dX9_person_11 : decode cX9_person 11 = .ok (.ldc 129, 2) := by decide +kernel
theorem dX9_person_13 : decode cX9_person 13 = .ok (.ireturn, 1) := by decide +kernel
theorem dX9_person_14 : decode cX9_person 14 = .ok (.iload_n 2, 1) := by decide +kernel
theorem dX9_person_15 : decode cX9_person 15 = .ok (.tableswitch 93 0 4 #[33, 45, 57, 69, 81], 33) := by decide +kernel
theorem dX9_person_48 : decode cX9_person 48 = .ok (.aload_n 0, 1) := by decide +kernel
theorem dX9_person_49 : decode cX9_person 49 = .ok (.getfield 26, 3) := by decide +kernel
theorem dX9_person_52 : decode cX9_person 52 = .ok (.getfield 147, 3) := by decide +kernel
theorem dX9_person_55 : decode cX9_person 55 = .ok (.iload_n 1, 1) := by decide +kernel
theorem dX9_person_56 : decode cX9_person 56 = .ok (.invokestatic 134, 3) := by decide +kernel
theorem dX9_person_59 : decode cX9_person 59 = .ok (.ireturn, 1) := by decide +kernel
theorem dX9_person_60 : decode cX9_person 60 = .ok (.aload_n 0, 1) := by decide +kernel
theorem dX9_person_61 : decode cX9_person 61 = .ok (.getfield 26, 3) := by decide +kernel
theorem dX9_person_64 : decode cX9_person 64 = .ok (.getfield 150, 3) := by decide +kernel
theorem dX9_person_67 : decode cX9_person 67 = .ok (.iload_n 1, 1) := by decide +kernel
theorem dX9_person_68 : decode cX9_person 68 = .ok (.invokestatic 134, 3) := by decide +kernel
theorem dX9_person_71 : decode cX9_person 71 = .ok (.ireturn, 1) := by decide +kernel
theorem dX9_person_72 : decode cX9_person 72 = .ok (.aload_n 0, 1) := by decide +kernel
theorem dX9_person_73 : decode cX9_person 73 = .ok (.getfield 26, 3) := by decide +kernel
theorem dX9_person_76 : decode cX9_person 76 = .ok (.getfield 153, 3) := by decide +kernel
theorem dX9_person_79 : decode cX9_person 79 = .ok (.iload_n 1, 1) := by decide +kernel
theorem dX9_person_80 : decode cX9_person 80 = .ok (.invokestatic 134, 3) := by decide +kernel
theorem dX9_person_83 : decode cX9_person 83 = .ok (.ireturn, 1) := by decide +kernel
theorem dX9_person_84 : decode cX9_person 84 = .ok (.aload_n 0, 1) := by decide +kernel
theorem dX9_person_85 : decode cX9_person 85 = .ok (.getfield 26, 3) := by decide +kernel
theorem dX9_person_88 : decode cX9_person 88 = .ok (.getfield 156, 3) := by decide +kernel
theorem dX9_person_91 : decode cX9_person 91 = .ok (.iload_n 1, 1) := by decide +kernel
theorem dX9_person_92 : decode cX9_person 92 = .ok (.invokestatic 134, 3) := by decide +kernel
theorem dX9_person_95 : decode cX9_person 95 = .ok (.ireturn, 1) := by decide +kernel
theorem dX9_person_96 : decode cX9_person 96 = .ok (.aload_n 0, 1) := by decide +kernel
theorem dX9_person_97 : decode cX9_person 97 = .ok (.getfield 26, 3) := by decide +kernel
theorem dX9_person_100 : decode cX9_person 100 = .ok (.getfield 159, 3) := by decide +kernel
theorem dX9_person_103 : decode cX9_person 103 = .ok (.iload_n 1, 1) := by decide +kernel
theorem dX9_person_104 : decode cX9_person 104 = .ok (.invokestatic 134, 3) := by decide +kernel
theorem dX9_person_107 : decode cX9_person 107 = .ok (.ireturn, 1) := by decide +kernel
theorem dX9_person_108 : decode cX9_person 108 = .ok (.ldc 76, 2) := by decide +kernel
theorem dX9_person_110 : decode cX9_person 110 = .ok (.ireturn, 1) := by decide +kernel
theorem dX9_far_0 : decode cX9_far 0 = .ok (.aload_n 0, 1) := by decide +kernel
theorem dX9_far_1 : decode cX9_far 1 = .ok (.getfield 26, 3) := by decide +kernel
theorem dX9_far_4 : decode cX9_far 4 = .ok (.iload_n 1, 1) := by decide +kernel
theorem dX9_far_5 : decode cX9_far 5 = .ok (.invokevirtual 162, 3) := by decide +kernel
theorem dX9_far_8 : decode cX9_far 8 = .ok (.ifCond .eq 14, 3) := by decide +kernel
theorem dX9_far_11 : decode cX9_far 11 = .ok (.aload_n 0, 1) := by decide +kernel
theorem dX9_far_12 : decode cX9_far 12 = .ok (.getfield 26, 3) := by decide +kernel
theorem dX9_far_15 : decode cX9_far 15 = .ok (.iload_n 2, 1) := by decide +kernel
theorem dX9_far_16 : decode cX9_far 16 = .ok (.invokevirtual 162, 3) := by decide +kernel
theorem dX9_far_19 : decode cX9_far 19 = .ok (.ifCond .ne 6, 3) := by decide +kernel
theorem dX9_far_22 : decode cX9_far 22 = .ok (.ldc 129, 2) := by decide +kernel
theorem dX9_far_24 : decode cX9_far 24 = .ok (.ireturn, 1) := by decide +kernel
theorem dX9_far_25 : decode cX9_far 25 = .ok (.aload_n 0, 1) := by decide +kernel
theorem dX9_far_26 : decode cX9_far 26 = .ok (.iload_n 1, 1) := by decide +kernel
theorem dX9_far_27 : decode cX9_far 27 = .ok (.iload_n 2, 1) := by decide +kernel
theorem dX9_far_28 : decode cX9_far 28 = .ok (.invokevirtual 165, 3) := by decide +kernel
theorem dX9_far_31 : decode cX9_far 31 = .ok (.ireturn, 1) := by decide +kernel
theorem dX9_law_0 : decode cX9_law 0 = .ok (.iload_n 1, 1) := by decide +kernel
theorem dX9_law_1 : decode cX9_law 1 = .ok (.ifCond .lt 8, 3) := by decide +kernel
theorem dX9_law_4 : decode cX9_law 4 = .ok (.iload_n 1, 1) := by decide +kernel
theorem dX9_law_5 : decode cX9_law 5 = .ok (.iconst 3, 1) := by decide +kernel
theorem dX9_law_6 : decode cX9_law 6 = .ok (.if_icmp .le 6, 3) := by decide +kernel
theorem dX9_law_9 : decode cX9_law 9 = .ok (.ldc 76, 2) := by decide +kernel
theorem dX9_law_11 : decode cX9_law 11 = .ok (.ireturn, 1) := by decide +kernel
theorem dX9_law_12 : decode cX9_law 12 = .ok (.aload_n 0, 1) := by decide +kernel
theorem dX9_law_13 : decode cX9_law 13 = .ok (.getfield 116, 3) := by decide +kernel
theorem dX9_law_16 : decode cX9_law 16 = .ok (.istore_n 2, 1) := by decide +kernel
theorem dX9_law_17 : decode cX9_law 17 = .ok (.aload_n 0, 1) := by decide +kernel
theorem dX9_law_18 : decode cX9_law 18 = .ok (.iload_n 1, 1) := by decide +kernel
theorem dX9_law_19 : decode cX9_law 19 = .ok (.putfield 116, 3) := by decide +kernel
theorem dX9_law_22 : decode cX9_law 22 = .ok (.iload_n 2, 1) := by decide +kernel
theorem dX9_law_23 : decode cX9_law 23 = .ok (.ireturn, 1) := by decide +kernel
theorem dX9_learn_0 : decode cX9_learn 0 = .ok (.aload_n 0, 1) := by decide +kernel
theorem dX9_learn_1 : decode cX9_learn 1 = .ok (.getfield 26, 3) := by decide +kernel
theorem dX9_learn_4 : decode cX9_learn 4 = .ok (.iload_n 1, 1) := by decide +kernel
theorem dX9_learn_5 : decode cX9_learn 5 = .ok (.invokevirtual 144, 3) := by decide +kernel
theorem dX9_learn_8 : decode cX9_learn 8 = .ok (.ifCond .eq 14, 3) := by decide +kernel
theorem dX9_learn_11 : decode cX9_learn 11 = .ok (.aload_n 0, 1) := by decide +kernel
theorem dX9_learn_12 : decode cX9_learn 12 = .ok (.getfield 26, 3) := by decide +kernel
theorem dX9_learn_15 : decode cX9_learn 15 = .ok (.iload_n 2, 1) := by decide +kernel
theorem dX9_learn_16 : decode cX9_learn 16 = .ok (.invokevirtual 125, 3) := by decide +kernel
theorem dX9_learn_19 : decode cX9_learn 19 = .ok (.ifCond .ne 6, 3) := by decide +kernel
theorem dX9_learn_22 : decode cX9_learn 22 = .ok (.ldc 129, 2) := by decide +kernel
theorem dX9_learn_24 : decode cX9_learn 24 = .ok (.ireturn, 1) := by decide +kernel
theorem dX9_learn_25 : decode cX9_learn 25 = .ok (.aload_n 0, 1) := by decide +kernel
theorem dX9_learn_26 : decode cX9_learn 26 = .ok (.getfield 26, 3) := by decide +kernel
theorem dX9_learn_29 : decode cX9_learn 29 = .ok (.getfield 159, 3) := by decide +kernel
theorem dX9_learn_32 : decode cX9_learn 32 = .ok (.iload_n 1, 1) := by decide +kernel
theorem dX9_learn_33 : decode cX9_learn 33 = .ok (.invokestatic 134, 3) := by decide +kernel
theorem dX9_learn_36 : decode cX9_learn 36 = .ok (.istore 4, 2) := by decide +kernel
theorem dX9_learn_38 : decode cX9_learn 38 = .ok (.aload_n 0, 1) := by decide +kernel
theorem dX9_learn_39 : decode cX9_learn 39 = .ok (.getfield 26, 3) := by decide +kernel
theorem dX9_learn_42 : decode cX9_learn 42 = .ok (.getfield 159, 3) := by decide +kernel
theorem dX9_learn_45 : decode cX9_learn 45 = .ok (.iload_n 1, 1) := by decide +kernel
theorem dX9_learn_46 : decode cX9_learn 46 = .ok (.iload_n 3, 1) := by decide +kernel
theorem dX9_learn_47 : decode cX9_learn 47 = .ok (.ifCond .eq 12, 3) := by decide +kernel
theorem dX9_learn_50 : decode cX9_learn 50 = .ok (.iload 4, 2) := by decide +kernel
theorem dX9_learn_52 : decode cX9_learn 52 = .ok (.iconst 1, 1) := by decide +kernel
theorem dX9_learn_53 : decode cX9_learn 53 = .ok (.iload_n 2, 1) := by decide +kernel
theorem dX9_learn_54 : decode cX9_learn 54 = .ok (.ishl, 1) := by decide +kernel
theorem dX9_learn_55 : decode cX9_learn 55 = .ok (.ior, 1) := by decide +kernel
theorem dX9_learn_56 : decode cX9_learn 56 = .ok (.goto 11, 3) := by decide +kernel
theorem dX9_learn_59 : decode cX9_learn 59 = .ok (.iload 4, 2) := by decide +kernel
theorem dX9_learn_61 : decode cX9_learn 61 = .ok (.iconst 1, 1) := by decide +kernel
theorem dX9_learn_62 : decode cX9_learn 62 = .ok (.iload_n 2, 1) := by decide +kernel
theorem dX9_learn_63 : decode cX9_learn 63 = .ok (.ishl, 1) := by decide +kernel
theorem dX9_learn_64 : decode cX9_learn 64 = .ok (.iconst (-1), 1) := by decide +kernel
theorem dX9_learn_65 : decode cX9_learn 65 = .ok (.ixor, 1) := by decide +kernel
theorem dX9_learn_66 : decode cX9_learn 66 = .ok (.iand, 1) := by decide +kernel
theorem dX9_learn_67 : decode cX9_learn 67 = .ok (.invokestatic 169, 3) := by decide +kernel
theorem dX9_learn_70 : decode cX9_learn 70 = .ok (.iload 4, 2) := by decide +kernel
theorem dX9_learn_72 : decode cX9_learn 72 = .ok (.iload_n 2, 1) := by decide +kernel
theorem dX9_learn_73 : decode cX9_learn 73 = .ok (.ishr, 1) := by decide +kernel
theorem dX9_learn_74 : decode cX9_learn 74 = .ok (.iconst 1, 1) := by decide +kernel
theorem dX9_learn_75 : decode cX9_learn 75 = .ok (.iand, 1) := by decide +kernel
theorem dX9_learn_76 : decode cX9_learn 76 = .ok (.ireturn, 1) := by decide +kernel
theorem dX9_habit_0 : decode cX9_habit 0 = .ok (.aload_n 0, 1) := by decide +kernel
theorem dX9_habit_1 : decode cX9_habit 1 = .ok (.getfield 26, 3) := by decide +kernel
theorem dX9_habit_4 : decode cX9_habit 4 = .ok (.iload_n 1, 1) := by decide +kernel
theorem dX9_habit_5 : decode cX9_habit 5 = .ok (.invokevirtual 144, 3) := by decide +kernel
theorem dX9_habit_8 : decode cX9_habit 8 = .ok (.ifCond .ne 6, 3) := by decide +kernel
theorem dX9_habit_11 : decode cX9_habit 11 = .ok (.ldc 129, 2) := by decide +kernel
theorem dX9_habit_13 : decode cX9_habit 13 = .ok (.ireturn, 1) := by decide +kernel
theorem dX9_habit_14 : decode cX9_habit 14 = .ok (.iload_n 2, 1) := by decide +kernel
theorem dX9_habit_15 : decode cX9_habit 15 = .ok (.ifCond .lt 8, 3) := by decide +kernel
theorem dX9_habit_18 : decode cX9_habit 18 = .ok (.iload_n 2, 1) := by decide +kernel
theorem dX9_habit_19 : decode cX9_habit 19 = .ok (.iconst 3, 1) := by decide +kernel
theorem dX9_habit_20 : decode cX9_habit 20 = .ok (.if_icmp .le 6, 3) := by decide +kernel
theorem dX9_habit_23 : decode cX9_habit 23 = .ok (.ldc 76, 2) := by decide +kernel
theorem dX9_habit_25 : decode cX9_habit 25 = .ok (.ireturn, 1) := by decide +kernel
theorem dX9_habit_26 : decode cX9_habit 26 = .ok (.aload_n 0, 1) := by decide +kernel
theorem dX9_habit_27 : decode cX9_habit 27 = .ok (.getfield 26, 3) := by decide +kernel
theorem dX9_habit_30 : decode cX9_habit 30 = .ok (.getfield 156, 3) := by decide +kernel
theorem dX9_habit_33 : decode cX9_habit 33 = .ok (.iload_n 1, 1) := by decide +kernel
theorem dX9_habit_34 : decode cX9_habit 34 = .ok (.invokestatic 134, 3) := by decide +kernel
theorem dX9_habit_37 : decode cX9_habit 37 = .ok (.istore_n 3, 1) := by decide +kernel
theorem dX9_habit_38 : decode cX9_habit 38 = .ok (.aload_n 0, 1) := by decide +kernel
theorem dX9_habit_39 : decode cX9_habit 39 = .ok (.getfield 26, 3) := by decide +kernel
theorem dX9_habit_42 : decode cX9_habit 42 = .ok (.getfield 156, 3) := by decide +kernel
theorem dX9_habit_45 : decode cX9_habit 45 = .ok (.iload_n 1, 1) := by decide +kernel
theorem dX9_habit_46 : decode cX9_habit 46 = .ok (.iload_n 2, 1) := by decide +kernel
theorem dX9_habit_47 : decode cX9_habit 47 = .ok (.invokestatic 169, 3) := by decide +kernel
theorem dX9_habit_50 : decode cX9_habit 50 = .ok (.iload_n 3, 1) := by decide +kernel
theorem dX9_habit_51 : decode cX9_habit 51 = .ok (.ireturn, 1) := by decide +kernel
theorem dX9_route_0 : decode cX9_route 0 = .ok (.aload_n 0, 1) := by decide +kernel
theorem dX9_route_1 : decode cX9_route 1 = .ok (.iload_n 1, 1) := by decide +kernel
theorem dX9_route_2 : decode cX9_route 2 = .ok (.iload_n 2, 1) := by decide +kernel
theorem dX9_route_3 : decode cX9_route 3 = .ok (.iload_n 3, 1) := by decide +kernel
theorem dX9_route_4 : decode cX9_route 4 = .ok (.invokevirtual 173, 3) := by decide +kernel
theorem dX9_route_7 : decode cX9_route 7 = .ok (.ifCond .ne 6, 3) := by decide +kernel
theorem dX9_route_10 : decode cX9_route 10 = .ok (.ldc 129, 2) := by decide +kernel
theorem dX9_route_12 : decode cX9_route 12 = .ok (.ireturn, 1) := by decide +kernel
theorem dX9_route_13 : decode cX9_route 13 = .ok (.aload_n 0, 1) := by decide +kernel
theorem dX9_route_14 : decode cX9_route 14 = .ok (.iload_n 1, 1) := by decide +kernel
theorem dX9_route_15 : decode cX9_route 15 = .ok (.iload_n 2, 1) := by decide +kernel
theorem dX9_route_16 : decode cX9_route 16 = .ok (.iload_n 3, 1) := by decide +kernel
theorem dX9_route_17 : decode cX9_route 17 = .ok (.invokevirtual 177, 3) := by decide +kernel
theorem dX9_route_20 : decode cX9_route 20 = .ok (.iload 4, 2) := by decide +kernel
theorem dX9_route_22 : decode cX9_route 22 = .ok (.iconst (-1), 1) := by decide +kernel
theorem dX9_route_23 : decode cX9_route 23 = .ok (.if_icmp .eq 14, 3) := by decide +kernel
theorem dX9_route_26 : decode cX9_route 26 = .ok (.aload_n 0, 1) := by decide +kernel
theorem dX9_route_27 : decode cX9_route 27 = .ok (.getfield 33, 3) := by decide +kernel
theorem dX9_route_30 : decode cX9_route 30 = .ok (.getfield 181, 3) := by decide +kernel
theorem dX9_route_33 : decode cX9_route 33 = .ok (.iconst (-1), 1) := by decide +kernel
theorem dX9_route_34 : decode cX9_route 34 = .ok (.if_icmp .ne 11, 3) := by decide +kernel
theorem dX9_route_37 : decode cX9_route 37 = .ok (.aload_n 0, 1) := by decide +kernel
theorem dX9_route_38 : decode cX9_route 38 = .ok (.getfield 33, 3) := by decide +kernel
theorem dX9_route_41 : decode cX9_route 41 = .ok (.getfield 181, 3) := by decide +kernel
theorem dX9_route_44 : decode cX9_route 44 = .ok (.ireturn, 1) := by decide +kernel
theorem dX9_route_45 : decode cX9_route 45 = .ok (.iload 4, 2) := by decide +kernel
theorem dX9_route_47 : decode cX9_route 47 = .ok (.bipush (-2), 2) := by decide +kernel
theorem dX9_route_49 : decode cX9_route 49 = .ok (.if_icmp .ne 18, 3) := by decide +kernel
theorem dX9_route_52 : decode cX9_route 52 = .ok (.aload_n 0, 1) := by decide +kernel
theorem dX9_route_53 : decode cX9_route 53 = .ok (.getfield 33, 3) := by decide +kernel
theorem dX9_route_56 : decode cX9_route 56 = .ok (.aload_n 0, 1) := by decide +kernel
theorem dX9_route_57 : decode cX9_route 57 = .ok (.getfield 33, 3) := by decide +kernel
theorem dX9_route_60 : decode cX9_route 60 = .ok (.getfield 181, 3) := by decide +kernel
theorem dX9_route_63 : decode cX9_route 63 = .ok (.invokevirtual 184, 3) := by decide +kernel
theorem dX9_route_66 : decode cX9_route 66 = .ok (.ireturn, 1) := by decide +kernel
theorem dX9_route_67 : decode cX9_route 67 = .ok (.iload 4, 2) := by decide +kernel
theorem dX9_route_69 : decode cX9_route 69 = .ok (.ifCond .lt 29, 3) := by decide +kernel
theorem dX9_route_72 : decode cX9_route 72 = .ok (.iload 4, 2) := by decide +kernel
theorem dX9_route_74 : decode cX9_route 74 = .ok (.aload_n 0, 1) := by decide +kernel
theorem dX9_route_75 : decode cX9_route 75 = .ok (.getfield 33, 3) := by decide +kernel
theorem dX9_route_78 : decode cX9_route 78 = .ok (.getfield 181, 3) := by decide +kernel
theorem dX9_route_81 : decode cX9_route 81 = .ok (.if_icmp .ge 17, 3) := by decide +kernel
theorem dX9_route_84 : decode cX9_route 84 = .ok (.aload_n 0, 1) := by decide +kernel
theorem dX9_route_85 : decode cX9_route 85 = .ok (.getfield 33, 3) := by decide +kernel
theorem dX9_route_88 : decode cX9_route 88 = .ok (.iload 4, 2) := by decide +kernel
theorem dX9_route_90 : decode cX9_route 90 = .ok (.iconst 1, 1) := by decide +kernel
theorem dX9_route_91 : decode cX9_route 91 = .ok (.iadd, 1) := by decide +kernel
theorem dX9_route_92 : decode cX9_route 92 = .ok (.invokevirtual 188, 3) := by decide +kernel
theorem dX9_route_95 : decode cX9_route 95 = .ok (.goto 4, 3) := by decide +kernel
theorem dX9_route_98 : decode cX9_route 98 = .ok (.iconst (-1), 1) := by decide +kernel
theorem dX9_route_99 : decode cX9_route 99 = .ok (.ireturn, 1) := by decide +kernel
theorem dX9_says_0 : decode cX9_says 0 = .ok (.aload_n 0, 1) := by decide +kernel
theorem dX9_says_1 : decode cX9_says 1 = .ok (.iload_n 1, 1) := by decide +kernel
theorem dX9_says_2 : decode cX9_says 2 = .ok (.iload_n 2, 1) := by decide +kernel
theorem dX9_says_3 : decode cX9_says 3 = .ok (.iload_n 3, 1) := by decide +kernel
theorem dX9_says_4 : decode cX9_says 4 = .ok (.invokevirtual 173, 3) := by decide +kernel
theorem dX9_says_7 : decode cX9_says 7 = .ok (.ifCond .ne 6, 3) := by decide +kernel
theorem dX9_says_10 : decode cX9_says 10 = .ok (.ldc 129, 2) := by decide +kernel
theorem dX9_says_12 : decode cX9_says 12 = .ok (.ireturn, 1) := by decide +kernel
theorem dX9_says_13 : decode cX9_says 13 = .ok (.iload 4, 2) := by decide +kernel
theorem dX9_says_15 : decode cX9_says 15 = .ok (.ifCond .lt 9, 3) := by decide +kernel
theorem dX9_says_18 : decode cX9_says 18 = .ok (.iload 4, 2) := by decide +kernel
theorem dX9_says_20 : decode cX9_says 20 = .ok (.iconst 4, 1) := by decide +kernel
theorem dX9_says_21 : decode cX9_says 21 = .ok (.if_icmp .le 6, 3) := by decide +kernel
theorem dX9_says_24 : decode cX9_says 24 = .ok (.ldc 76, 2) := by decide +kernel
theorem dX9_says_26 : decode cX9_says 26 = .ok (.ireturn, 1) := by decide +kernel
theorem dX9_says_27 : decode cX9_says 27 = .ok (.aload_n 0, 1) := by decide +kernel
theorem dX9_says_28 : decode cX9_says 28 = .ok (.iload_n 1, 1) := by decide +kernel
theorem dX9_says_29 : decode cX9_says 29 = .ok (.iload_n 2, 1) := by decide +kernel
theorem dX9_says_30 : decode cX9_says 30 = .ok (.iload_n 3, 1) := by decide +kernel
theorem dX9_says_31 : decode cX9_says 31 = .ok (.invokevirtual 177, 3) := by decide +kernel
theorem dX9_says_34 : decode cX9_says 34 = .ok (.aload_n 0, 1) := by decide +kernel
theorem dX9_says_35 : decode cX9_says 35 = .ok (.getfield 33, 3) := by decide +kernel
theorem dX9_says_38 : decode cX9_says 38 = .ok (.aload_n 0, 1) := by decide +kernel
theorem dX9_says_39 : decode cX9_says 39 = .ok (.getfield 26, 3) := by decide +kernel
theorem dX9_says_42 : decode cX9_says 42 = .ok (.getfield 156, 3) := by decide +kernel
theorem dX9_says_45 : decode cX9_says 45 = .ok (.iload_n 1, 1) := by decide +kernel
theorem dX9_says_46 : decode cX9_says 46 = .ok (.invokestatic 134, 3) := by decide +kernel
theorem dX9_says_49 : decode cX9_says 49 = .ok (.aload_n 0, 1) := by decide +kernel
theorem dX9_says_50 : decode cX9_says 50 = .ok (.getfield 26, 3) := by decide +kernel
theorem dX9_says_53 : decode cX9_says 53 = .ok (.getfield 150, 3) := by decide +kernel
theorem dX9_says_56 : decode cX9_says 56 = .ok (.iload_n 1, 1) := by decide +kernel
theorem dX9_says_57 : decode cX9_says 57 = .ok (.invokestatic 134, 3) := by decide +kernel
theorem dX9_says_60 : decode cX9_says 60 = .ok (.invokevirtual 191, 3) := by decide +kernel
theorem dX9_says_63 : decode cX9_says 63 = .ok (.istore 5, 2) := by decide +kernel
theorem dX9_says_65 : decode cX9_says 65 = .ok (.iload 4, 2) := by decide +kernel
theorem dX9_says_67 : decode cX9_says 67 = .ok (.tableswitch 66 0 3 #[29, 32, 42, 52], 29) := by decide +kernel
theorem dX9_says_96 : decode cX9_says 96 = .ok (.iload 5, 2) := by decide +kernel
theorem dX9_says_98 : decode cX9_says 98 = .ok (.ireturn, 1) := by decide +kernel
theorem dX9_says_99 : decode cX9_says 99 = .ok (.aload_n 0, 1) := by decide +kernel
theorem dX9_says_100 : decode cX9_says 100 = .ok (.getfield 33, 3) := by decide +kernel
theorem dX9_says_103 : decode cX9_says 103 = .ok (.iload 5, 2) := by decide +kernel
theorem dX9_says_105 : decode cX9_says 105 = .ok (.invokevirtual 188, 3) := by decide +kernel
theorem dX9_says_108 : decode cX9_says 108 = .ok (.ireturn, 1) := by decide +kernel
theorem dX9_says_109 : decode cX9_says 109 = .ok (.aload_n 0, 1) := by decide +kernel
theorem dX9_says_110 : decode cX9_says 110 = .ok (.getfield 33, 3) := by decide +kernel
theorem dX9_says_113 : decode cX9_says 113 = .ok (.iload 5, 2) := by decide +kernel
theorem dX9_says_115 : decode cX9_says 115 = .ok (.invokevirtual 184, 3) := by decide +kernel
theorem dX9_says_118 : decode cX9_says 118 = .ok (.ireturn, 1) := by decide +kernel
theorem dX9_says_119 : decode cX9_says 119 = .ok (.aload_n 0, 1) := by decide +kernel
theorem dX9_says_120 : decode cX9_says 120 = .ok (.getfield 33, 3) := by decide +kernel
theorem dX9_says_123 : decode cX9_says 123 = .ok (.aload_n 0, 1) := by decide +kernel
theorem dX9_says_124 : decode cX9_says 124 = .ok (.getfield 116, 3) := by decide +kernel
theorem dX9_says_127 : decode cX9_says 127 = .ok (.iload 5, 2) := by decide +kernel
theorem dX9_says_129 : decode cX9_says 129 = .ok (.invokevirtual 194, 3) := by decide +kernel
theorem dX9_says_132 : decode cX9_says 132 = .ok (.ireturn, 1) := by decide +kernel
theorem dX9_says_133 : decode cX9_says 133 = .ok (.aload_n 0, 1) := by decide +kernel
theorem dX9_says_134 : decode cX9_says 134 = .ok (.getfield 33, 3) := by decide +kernel
theorem dX9_says_137 : decode cX9_says 137 = .ok (.aload_n 0, 1) := by decide +kernel
theorem dX9_says_138 : decode cX9_says 138 = .ok (.getfield 116, 3) := by decide +kernel
theorem dX9_says_141 : decode cX9_says 141 = .ok (.iload 5, 2) := by decide +kernel
theorem dX9_says_143 : decode cX9_says 143 = .ok (.invokevirtual 197, 3) := by decide +kernel
theorem dX9_says_146 : decode cX9_says 146 = .ok (.ireturn, 1) := by decide +kernel
theorem dX9_own_0 : decode cX9_own 0 = .ok (.aload_n 0, 1) := by decide +kernel
theorem dX9_own_1 : decode cX9_own 1 = .ok (.iload_n 1, 1) := by decide +kernel
theorem dX9_own_2 : decode cX9_own 2 = .ok (.iload_n 2, 1) := by decide +kernel
theorem dX9_own_3 : decode cX9_own 3 = .ok (.iload_n 3, 1) := by decide +kernel
theorem dX9_own_4 : decode cX9_own 4 = .ok (.invokevirtual 173, 3) := by decide +kernel
theorem dX9_own_7 : decode cX9_own 7 = .ok (.ifCond .ne 6, 3) := by decide +kernel
theorem dX9_own_10 : decode cX9_own 10 = .ok (.ldc 129, 2) := by decide +kernel
theorem dX9_own_12 : decode cX9_own 12 = .ok (.ireturn, 1) := by decide +kernel
theorem dX9_own_13 : decode cX9_own 13 = .ok (.iload 4, 2) := by decide +kernel
theorem dX9_own_15 : decode cX9_own 15 = .ok (.ifCond .lt 9, 3) := by decide +kernel
theorem dX9_own_18 : decode cX9_own 18 = .ok (.iload 4, 2) := by decide +kernel
theorem dX9_own_20 : decode cX9_own 20 = .ok (.iconst 1, 1) := by decide +kernel
theorem dX9_own_21 : decode cX9_own 21 = .ok (.if_icmp .le 6, 3) := by decide +kernel
theorem dX9_own_24 : decode cX9_own 24 = .ok (.ldc 76, 2) := by decide +kernel
theorem dX9_own_26 : decode cX9_own 26 = .ok (.ireturn, 1) := by decide +kernel
theorem dX9_own_27 : decode cX9_own 27 = .ok (.aload_n 0, 1) := by decide +kernel
theorem dX9_own_28 : decode cX9_own 28 = .ok (.iload_n 1, 1) := by decide +kernel
theorem dX9_own_29 : decode cX9_own 29 = .ok (.iload_n 2, 1) := by decide +kernel
theorem dX9_own_30 : decode cX9_own 30 = .ok (.iload_n 3, 1) := by decide +kernel
theorem dX9_own_31 : decode cX9_own 31 = .ok (.invokevirtual 177, 3) := by decide +kernel
theorem dX9_own_34 : decode cX9_own 34 = .ok (.aload_n 0, 1) := by decide +kernel
theorem dX9_own_35 : decode cX9_own 35 = .ok (.getfield 26, 3) := by decide +kernel
theorem dX9_own_38 : decode cX9_own 38 = .ok (.getfield 150, 3) := by decide +kernel
theorem dX9_own_41 : decode cX9_own 41 = .ok (.iload_n 1, 1) := by decide +kernel
theorem dX9_own_42 : decode cX9_own 42 = .ok (.invokestatic 134, 3) := by decide +kernel
theorem dX9_own_45 : decode cX9_own 45 = .ok (.istore 5, 2) := by decide +kernel
theorem dX9_own_47 : decode cX9_own 47 = .ok (.aload_n 0, 1) := by decide +kernel
theorem dX9_own_48 : decode cX9_own 48 = .ok (.getfield 26, 3) := by decide +kernel
theorem dX9_own_51 : decode cX9_own 51 = .ok (.getfield 153, 3) := by decide +kernel
theorem dX9_own_54 : decode cX9_own 54 = .ok (.iload_n 1, 1) := by decide +kernel
theorem dX9_own_55 : decode cX9_own 55 = .ok (.invokestatic 134, 3) := by decide +kernel
theorem dX9_own_58 : decode cX9_own 58 = .ok (.istore 6, 2) := by decide +kernel
theorem dX9_own_60 : decode cX9_own 60 = .ok (.aload_n 0, 1) := by decide +kernel
theorem dX9_own_61 : decode cX9_own 61 = .ok (.getfield 33, 3) := by decide +kernel
theorem dX9_own_64 : decode cX9_own 64 = .ok (.aload_n 0, 1) := by decide +kernel
theorem dX9_own_65 : decode cX9_own 65 = .ok (.getfield 116, 3) := by decide +kernel
theorem dX9_own_68 : decode cX9_own 68 = .ok (.iload 5, 2) := by decide +kernel
theorem dX9_own_70 : decode cX9_own 70 = .ok (.iload 6, 2) := by decide +kernel
theorem dX9_own_72 : decode cX9_own 72 = .ok (.invokevirtual 200, 3) := by decide +kernel
theorem dX9_own_75 : decode cX9_own 75 = .ok (.istore 7, 2) := by decide +kernel
theorem dX9_own_77 : decode cX9_own 77 = .ok (.iload 4, 2) := by decide +kernel
theorem dX9_own_79 : decode cX9_own 79 = .ok (.ifCond .ne 8, 3) := by decide +kernel
theorem dX9_own_82 : decode cX9_own 82 = .ok (.iload 7, 2) := by decide +kernel
theorem dX9_own_84 : decode cX9_own 84 = .ok (.goto 20, 3) := by decide +kernel
theorem dX9_own_87 : decode cX9_own 87 = .ok (.aload_n 0, 1) := by decide +kernel
theorem dX9_own_88 : decode cX9_own 88 = .ok (.getfield 33, 3) := by decide +kernel
theorem dX9_own_91 : decode cX9_own 91 = .ok (.aload_n 0, 1) := by decide +kernel
theorem dX9_own_92 : decode cX9_own 92 = .ok (.getfield 116, 3) := by decide +kernel
theorem dX9_own_95 : decode cX9_own 95 = .ok (.iload 7, 2) := by decide +kernel
theorem dX9_own_97 : decode cX9_own 97 = .ok (.iload 5, 2) := by decide +kernel
theorem dX9_own_99 : decode cX9_own 99 = .ok (.iload 6, 2) := by decide +kernel
theorem dX9_own_101 : decode cX9_own 101 = .ok (.invokevirtual 204, 3) := by decide +kernel
theorem dX9_own_104 : decode cX9_own 104 = .ok (.ireturn, 1) := by decide +kernel
theorem dX9_led_0 : decode cX9_led 0 = .ok (.aload_n 0, 1) := by decide +kernel
theorem dX9_led_1 : decode cX9_led 1 = .ok (.getfield 26, 3) := by decide +kernel
theorem dX9_led_4 : decode cX9_led 4 = .ok (.iload_n 1, 1) := by decide +kernel
theorem dX9_led_5 : decode cX9_led 5 = .ok (.invokevirtual 162, 3) := by decide +kernel
theorem dX9_led_8 : decode cX9_led 8 = .ok (.ifCond .eq 14, 3) := by decide +kernel
theorem dX9_led_11 : decode cX9_led 11 = .ok (.aload_n 0, 1) := by decide +kernel
theorem dX9_led_12 : decode cX9_led 12 = .ok (.getfield 26, 3) := by decide +kernel
theorem dX9_led_15 : decode cX9_led 15 = .ok (.iload_n 2, 1) := by decide +kernel
theorem dX9_led_16 : decode cX9_led 16 = .ok (.invokevirtual 162, 3) := by decide +kernel
theorem dX9_led_19 : decode cX9_led 19 = .ok (.ifCond .ne 6, 3) := by decide +kernel
theorem dX9_led_22 : decode cX9_led 22 = .ok (.ldc 129, 2) := by decide +kernel
theorem dX9_led_24 : decode cX9_led 24 = .ok (.ireturn, 1) := by decide +kernel
theorem dX9_led_25 : decode cX9_led 25 = .ok (.iload 4, 2) := by decide +kernel
theorem dX9_led_27 : decode cX9_led 27 = .ok (.ifCond .lt 9, 3) := by decide +kernel
theorem dX9_led_30 : decode cX9_led 30 = .ok (.iload 4, 2) := by decide +kernel
theorem dX9_led_32 : decode cX9_led 32 = .ok (.iconst 3, 1) := by decide +kernel
theorem dX9_led_33 : decode cX9_led 33 = .ok (.if_icmp .le 6, 3) := by decide +kernel
theorem dX9_led_36 : decode cX9_led 36 = .ok (.ldc 76, 2) := by decide +kernel
theorem dX9_led_38 : decode cX9_led 38 = .ok (.ireturn, 1) := by decide +kernel
theorem dX9_led_39 : decode cX9_led 39 = .ok (.aload_n 0, 1) := by decide +kernel
theorem dX9_led_40 : decode cX9_led 40 = .ok (.iload_n 2, 1) := by decide +kernel
theorem dX9_led_41 : decode cX9_led 41 = .ok (.iload_n 3, 1) := by decide +kernel
theorem dX9_led_42 : decode cX9_led 42 = .ok (.invokevirtual 208, 3) := by decide +kernel
theorem dX9_led_45 : decode cX9_led 45 = .ok (.astore 5, 2) := by decide +kernel
theorem dX9_led_47 : decode cX9_led 47 = .ok (.aload 5, 2) := by decide +kernel
theorem dX9_led_49 : decode cX9_led 49 = .ok (.iload_n 1, 1) := by decide +kernel
theorem dX9_led_50 : decode cX9_led 50 = .ok (.iload_n 2, 1) := by decide +kernel
theorem dX9_led_51 : decode cX9_led 51 = .ok (.aconst_null, 1) := by decide +kernel
theorem dX9_led_52 : decode cX9_led 52 = .ok (.invokevirtual 212, 3) := by decide +kernel
theorem dX9_led_55 : decode cX9_led 55 = .ok (.iload 4, 2) := by decide +kernel
theorem dX9_led_57 : decode cX9_led 57 = .ok (.tableswitch 54 0 2 #[27, 33, 39], 27) := by decide +kernel
theorem dX9_led_84 : decode cX9_led 84 = .ok (.aload 5, 2) := by decide +kernel
theorem dX9_led_86 : decode cX9_led 86 = .ok (.getfield 216, 3) := by decide +kernel
theorem dX9_led_89 : decode cX9_led 89 = .ok (.ireturn, 1) := by decide +kernel
theorem dX9_led_90 : decode cX9_led 90 = .ok (.aload 5, 2) := by decide +kernel
theorem dX9_led_92 : decode cX9_led 92 = .ok (.getfield 219, 3) := by decide +kernel
theorem dX9_led_95 : decode cX9_led 95 = .ok (.ireturn, 1) := by decide +kernel
theorem dX9_led_96 : decode cX9_led 96 = .ok (.aload 5, 2) := by decide +kernel
theorem dX9_led_98 : decode cX9_led 98 = .ok (.getfield 219, 3) := by decide +kernel
theorem dX9_led_101 : decode cX9_led 101 = .ok (.iload_n 2, 1) := by decide +kernel
theorem dX9_led_102 : decode cX9_led 102 = .ok (.if_icmp .ne 7, 3) := by decide +kernel
theorem dX9_led_105 : decode cX9_led 105 = .ok (.iconst 0, 1) := by decide +kernel
theorem dX9_led_106 : decode cX9_led 106 = .ok (.goto 4, 3) := by decide +kernel
theorem dX9_led_109 : decode cX9_led 109 = .ok (.iconst 1, 1) := by decide +kernel
theorem dX9_led_110 : decode cX9_led 110 = .ok (.ireturn, 1) := by decide +kernel
theorem dX9_led_111 : decode cX9_led 111 = .ok (.aload 5, 2) := by decide +kernel
theorem dX9_led_113 : decode cX9_led 113 = .ok (.getfield 222, 3) := by decide +kernel
theorem dX9_led_116 : decode cX9_led 116 = .ok (.ireturn, 1) := by decide +kernel
theorem dX9_soonest_0 : decode cX9_soonest 0 = .ok (.aload_n 0, 1) := by decide +kernel
theorem dX9_soonest_1 : decode cX9_soonest 1 = .ok (.getfield 26, 3) := by decide +kernel
theorem dX9_soonest_4 : decode cX9_soonest 4 = .ok (.iload_n 1, 1) := by decide +kernel
theorem dX9_soonest_5 : decode cX9_soonest 5 = .ok (.invokevirtual 162, 3) := by decide +kernel
theorem dX9_soonest_8 : decode cX9_soonest 8 = .ok (.ifCond .eq 14, 3) := by decide +kernel
theorem dX9_soonest_11 : decode cX9_soonest 11 = .ok (.aload_n 0, 1) := by decide +kernel
theorem dX9_soonest_12 : decode cX9_soonest 12 = .ok (.getfield 26, 3) := by decide +kernel
theorem dX9_soonest_15 : decode cX9_soonest 15 = .ok (.iload_n 2, 1) := by decide +kernel
theorem dX9_soonest_16 : decode cX9_soonest 16 = .ok (.invokevirtual 162, 3) := by decide +kernel
theorem dX9_soonest_19 : decode cX9_soonest 19 = .ok (.ifCond .ne 6, 3) := by decide +kernel
theorem dX9_soonest_22 : decode cX9_soonest 22 = .ok (.ldc 129, 2) := by decide +kernel
theorem dX9_soonest_24 : decode cX9_soonest 24 = .ok (.ireturn, 1) := by decide +kernel
theorem dX9_soonest_25 : decode cX9_soonest 25 = .ok (.aload_n 0, 1) := by decide +kernel
theorem dX9_soonest_26 : decode cX9_soonest 26 = .ok (.iload_n 2, 1) := by decide +kernel
theorem dX9_soonest_27 : decode cX9_soonest 27 = .ok (.iconst 0, 1) := by decide +kernel
theorem dX9_soonest_28 : decode cX9_soonest 28 = .ok (.invokevirtual 208, 3) := by decide +kernel
theorem dX9_soonest_31 : decode cX9_soonest 31 = .ok (.iload_n 1, 1) := by decide +kernel
theorem dX9_soonest_32 : decode cX9_soonest 32 = .ok (.iload_n 2, 1) := by decide +kernel
theorem dX9_soonest_33 : decode cX9_soonest 33 = .ok (.invokevirtual 225, 3) := by decide +kernel
theorem dX9_soonest_36 : decode cX9_soonest 36 = .ok (.ireturn, 1) := by decide +kernel
theorem dX9_guide_0 : decode cX9_guide 0 = .ok (.aload_n 0, 1) := by decide +kernel
theorem dX9_guide_1 : decode cX9_guide 1 = .ok (.getfield 26, 3) := by decide +kernel
theorem dX9_guide_4 : decode cX9_guide 4 = .ok (.iload_n 1, 1) := by decide +kernel
theorem dX9_guide_5 : decode cX9_guide 5 = .ok (.invokevirtual 162, 3) := by decide +kernel
theorem dX9_guide_8 : decode cX9_guide 8 = .ok (.ifCond .eq 14, 3) := by decide +kernel
theorem dX9_guide_11 : decode cX9_guide 11 = .ok (.aload_n 0, 1) := by decide +kernel
theorem dX9_guide_12 : decode cX9_guide 12 = .ok (.getfield 26, 3) := by decide +kernel
theorem dX9_guide_15 : decode cX9_guide 15 = .ok (.iload_n 2, 1) := by decide +kernel
theorem dX9_guide_16 : decode cX9_guide 16 = .ok (.invokevirtual 162, 3) := by decide +kernel
theorem dX9_guide_19 : decode cX9_guide 19 = .ok (.ifCond .ne 6, 3) := by decide +kernel
theorem dX9_guide_22 : decode cX9_guide 22 = .ok (.ldc 129, 2) := by decide +kernel
theorem dX9_guide_24 : decode cX9_guide 24 = .ok (.ireturn, 1) := by decide +kernel
theorem dX9_guide_25 : decode cX9_guide 25 = .ok (.aload_n 0, 1) := by decide +kernel
theorem dX9_guide_26 : decode cX9_guide 26 = .ok (.iload_n 2, 1) := by decide +kernel
theorem dX9_guide_27 : decode cX9_guide 27 = .ok (.iconst 0, 1) := by decide +kernel
theorem dX9_guide_28 : decode cX9_guide 28 = .ok (.invokevirtual 208, 3) := by decide +kernel
theorem dX9_guide_31 : decode cX9_guide 31 = .ok (.astore 4, 2) := by decide +kernel
theorem dX9_guide_33 : decode cX9_guide 33 = .ok (.aload 4, 2) := by decide +kernel
theorem dX9_guide_35 : decode cX9_guide 35 = .ok (.iload_n 1, 1) := by decide +kernel
theorem dX9_guide_36 : decode cX9_guide 36 = .ok (.iload_n 2, 1) := by decide +kernel
theorem dX9_guide_37 : decode cX9_guide 37 = .ok (.invokevirtual 225, 3) := by decide +kernel
theorem dX9_guide_40 : decode cX9_guide 40 = .ok (.iconst (-1), 1) := by decide +kernel
theorem dX9_guide_41 : decode cX9_guide 41 = .ok (.if_icmp .ne 5, 3) := by decide +kernel
theorem dX9_guide_44 : decode cX9_guide 44 = .ok (.iconst (-1), 1) := by decide +kernel
theorem dX9_guide_45 : decode cX9_guide 45 = .ok (.ireturn, 1) := by decide +kernel
theorem dX9_guide_46 : decode cX9_guide 46 = .ok (.iload_n 3, 1) := by decide +kernel
theorem dX9_guide_47 : decode cX9_guide 47 = .ok (.iconst (-1), 1) := by decide +kernel
theorem dX9_guide_48 : decode cX9_guide 48 = .ok (.if_icmp .ne 12, 3) := by decide +kernel
theorem dX9_guide_51 : decode cX9_guide 51 = .ok (.aload 4, 2) := by decide +kernel
theorem dX9_guide_53 : decode cX9_guide 53 = .ok (.iload_n 1, 1) := by decide +kernel
theorem dX9_guide_54 : decode cX9_guide 54 = .ok (.invokevirtual 228, 3) := by decide +kernel
theorem dX9_guide_57 : decode cX9_guide 57 = .ok (.goto 11, 3) := by decide +kernel
theorem dX9_guide_60 : decode cX9_guide 60 = .ok (.aload 4, 2) := by decide +kernel
theorem dX9_guide_62 : decode cX9_guide 62 = .ok (.iload_n 1, 1) := by decide +kernel
theorem dX9_guide_63 : decode cX9_guide 63 = .ok (.iload_n 2, 1) := by decide +kernel
theorem dX9_guide_64 : decode cX9_guide 64 = .ok (.iload_n 3, 1) := by decide +kernel
theorem dX9_guide_65 : decode cX9_guide 65 = .ok (.invokevirtual 231, 3) := by decide +kernel
theorem dX9_guide_68 : decode cX9_guide 68 = .ok (.ireturn, 1) := by decide +kernel
theorem dX9_lot_0 : decode cX9_lot 0 = .ok (.aload_n 0, 1) := by decide +kernel
theorem dX9_lot_1 : decode cX9_lot 1 = .ok (.getfield 26, 3) := by decide +kernel
theorem dX9_lot_4 : decode cX9_lot 4 = .ok (.iload_n 1, 1) := by decide +kernel
theorem dX9_lot_5 : decode cX9_lot 5 = .ok (.invokevirtual 162, 3) := by decide +kernel
theorem dX9_lot_8 : decode cX9_lot 8 = .ok (.ifCond .eq 14, 3) := by decide +kernel
theorem dX9_lot_11 : decode cX9_lot 11 = .ok (.aload_n 0, 1) := by decide +kernel
theorem dX9_lot_12 : decode cX9_lot 12 = .ok (.getfield 26, 3) := by decide +kernel
theorem dX9_lot_15 : decode cX9_lot 15 = .ok (.iload_n 2, 1) := by decide +kernel
theorem dX9_lot_16 : decode cX9_lot 16 = .ok (.invokevirtual 162, 3) := by decide +kernel
theorem dX9_lot_19 : decode cX9_lot 19 = .ok (.ifCond .ne 6, 3) := by decide +kernel
theorem dX9_lot_22 : decode cX9_lot 22 = .ok (.ldc 129, 2) := by decide +kernel
theorem dX9_lot_24 : decode cX9_lot 24 = .ok (.ireturn, 1) := by decide +kernel
theorem dX9_lot_25 : decode cX9_lot 25 = .ok (.iload_n 3, 1) := by decide +kernel
theorem dX9_lot_26 : decode cX9_lot 26 = .ok (.ifCond .lt 8, 3) := by decide +kernel
theorem dX9_lot_29 : decode cX9_lot 29 = .ok (.iload_n 3, 1) := by decide +kernel
theorem dX9_lot_30 : decode cX9_lot 30 = .ok (.iconst 2, 1) := by decide +kernel
theorem dX9_lot_31 : decode cX9_lot 31 = .ok (.if_icmp .le 6, 3) := by decide +kernel
theorem dX9_lot_34 : decode cX9_lot 34 = .ok (.ldc 76, 2) := by decide +kernel
theorem dX9_lot_36 : decode cX9_lot 36 = .ok (.ireturn, 1) := by decide +kernel
theorem dX9_lot_37 : decode cX9_lot 37 = .ok (.aload_n 0, 1) := by decide +kernel
theorem dX9_lot_38 : decode cX9_lot 38 = .ok (.iload_n 2, 1) := by decide +kernel
theorem dX9_lot_39 : decode cX9_lot 39 = .ok (.iconst 0, 1) := by decide +kernel
theorem dX9_lot_40 : decode cX9_lot 40 = .ok (.invokevirtual 208, 3) := by decide +kernel
theorem dX9_lot_43 : decode cX9_lot 43 = .ok (.astore 4, 2) := by decide +kernel
theorem dX9_lot_45 : decode cX9_lot 45 = .ok (.aload 4, 2) := by decide +kernel
theorem dX9_lot_47 : decode cX9_lot 47 = .ok (.iload_n 1, 1) := by decide +kernel
theorem dX9_lot_48 : decode cX9_lot 48 = .ok (.iload_n 2, 1) := by decide +kernel
theorem dX9_lot_49 : decode cX9_lot 49 = .ok (.invokevirtual 234, 3) := by decide +kernel
theorem dX9_lot_52 : decode cX9_lot 52 = .ok (.iload_n 3, 1) := by decide +kernel
theorem dX9_lot_53 : decode cX9_lot 53 = .ok (.lookupswitch 39 #[(0, 27), (1, 33)], 27) := by decide +kernel
theorem dX9_lot_80 : decode cX9_lot 80 = .ok (.aload 4, 2) := by decide +kernel
theorem dX9_lot_82 : decode cX9_lot 82 = .ok (.getfield 238, 3) := by decide +kernel
theorem dX9_lot_85 : decode cX9_lot 85 = .ok (.ireturn, 1) := by decide +kernel
theorem dX9_lot_86 : decode cX9_lot 86 = .ok (.aload 4, 2) := by decide +kernel
theorem dX9_lot_88 : decode cX9_lot 88 = .ok (.getfield 241, 3) := by decide +kernel
theorem dX9_lot_91 : decode cX9_lot 91 = .ok (.ireturn, 1) := by decide +kernel
theorem dX9_lot_92 : decode cX9_lot 92 = .ok (.aload 4, 2) := by decide +kernel
theorem dX9_lot_94 : decode cX9_lot 94 = .ok (.getfield 244, 3) := by decide +kernel
theorem dX9_lot_97 : decode cX9_lot 97 = .ok (.ldc2_w 248, 3) := by decide +kernel
theorem dX9_lot_100 : decode cX9_lot 100 = .ok (.ldiv, 1) := by decide +kernel
theorem dX9_lot_101 : decode cX9_lot 101 = .ok (.l2i, 1) := by decide +kernel
theorem dX9_lot_102 : decode cX9_lot 102 = .ok (.ireturn, 1) := by decide +kernel
theorem dX9_say_0 : decode cX9_say 0 = .ok (.aload_n 0, 1) := by decide +kernel
theorem dX9_say_1 : decode cX9_say 1 = .ok (.getfield 26, 3) := by decide +kernel
theorem dX9_say_4 : decode cX9_say 4 = .ok (.iload_n 1, 1) := by decide +kernel
theorem dX9_say_5 : decode cX9_say 5 = .ok (.invokevirtual 162, 3) := by decide +kernel
theorem dX9_say_8 : decode cX9_say 8 = .ok (.ifCond .eq 14, 3) := by decide +kernel
theorem dX9_say_11 : decode cX9_say 11 = .ok (.aload_n 0, 1) := by decide +kernel
theorem dX9_say_12 : decode cX9_say 12 = .ok (.getfield 26, 3) := by decide +kernel
theorem dX9_say_15 : decode cX9_say 15 = .ok (.iload_n 2, 1) := by decide +kernel
theorem dX9_say_16 : decode cX9_say 16 = .ok (.invokevirtual 162, 3) := by decide +kernel
theorem dX9_say_19 : decode cX9_say 19 = .ok (.ifCond .ne 6, 3) := by decide +kernel
theorem dX9_say_22 : decode cX9_say 22 = .ok (.ldc 129, 2) := by decide +kernel
theorem dX9_say_24 : decode cX9_say 24 = .ok (.ireturn, 1) := by decide +kernel
theorem dX9_say_25 : decode cX9_say 25 = .ok (.iload_n 3, 1) := by decide +kernel
theorem dX9_say_26 : decode cX9_say 26 = .ok (.ifCond .lt 8, 3) := by decide +kernel
theorem dX9_say_29 : decode cX9_say 29 = .ok (.iload_n 3, 1) := by decide +kernel
theorem dX9_say_30 : decode cX9_say 30 = .ok (.iconst 2, 1) := by decide +kernel
theorem dX9_say_31 : decode cX9_say 31 = .ok (.if_icmp .le 6, 3) := by decide +kernel
theorem dX9_say_34 : decode cX9_say 34 = .ok (.ldc 76, 2) := by decide +kernel
theorem dX9_say_36 : decode cX9_say 36 = .ok (.ireturn, 1) := by decide +kernel
theorem dX9_say_37 : decode cX9_say 37 = .ok (.iconst (-1), 1) := by decide +kernel
theorem dX9_say_38 : decode cX9_say 38 = .ok (.istore 4, 2) := by decide +kernel
theorem dX9_say_40 : decode cX9_say 40 = .ok (.iconst (-1), 1) := by decide +kernel
theorem dX9_say_41 : decode cX9_say 41 = .ok (.istore 5, 2) := by decide +kernel
theorem dX9_say_43 : decode cX9_say 43 = .ok (.iconst (-1), 1) := by decide +kernel
theorem dX9_say_44 : decode cX9_say 44 = .ok (.istore 6, 2) := by decide +kernel
theorem dX9_say_46 : decode cX9_say 46 = .ok (.iconst 0, 1) := by decide +kernel
theorem dX9_say_47 : decode cX9_say 47 = .ok (.istore 7, 2) := by decide +kernel
theorem dX9_say_49 : decode cX9_say 49 = .ok (.iload 7, 2) := by decide +kernel
theorem dX9_say_51 : decode cX9_say 51 = .ok (.aload_n 0, 1) := by decide +kernel
theorem dX9_say_52 : decode cX9_say 52 = .ok (.getfield 26, 3) := by decide +kernel
theorem dX9_say_55 : decode cX9_say 55 = .ok (.getfield 113, 3) := by decide +kernel
theorem dX9_say_58 : decode cX9_say 58 = .ok (.if_icmp .ge 99, 3) := by decide +kernel
theorem dX9_say_61 : decode cX9_say 61 = .ok (.iconst 0, 1) := by decide +kernel
theorem dX9_say_62 : decode cX9_say 62 = .ok (.istore 8, 2) := by decide +kernel
theorem dX9_say_64 : decode cX9_say 64 = .ok (.iload 8, 2) := by decide +kernel
theorem dX9_say_66 : decode cX9_say 66 = .ok (.aload_n 0, 1) := by decide +kernel
theorem dX9_say_67 : decode cX9_say 67 = .ok (.getfield 26, 3) := by decide +kernel
theorem dX9_say_70 : decode cX9_say 70 = .ok (.getfield 104, 3) := by decide +kernel
theorem dX9_say_73 : decode cX9_say 73 = .ok (.if_icmp .ge 78, 3) := by decide +kernel
theorem dX9_say_76 : decode cX9_say 76 = .ok (.aload_n 0, 1) := by decide +kernel
theorem dX9_say_77 : decode cX9_say 77 = .ok (.getfield 26, 3) := by decide +kernel
theorem dX9_say_80 : decode cX9_say 80 = .ok (.getfield 147, 3) := by decide +kernel
theorem dX9_say_83 : decode cX9_say 83 = .ok (.iload 7, 2) := by decide +kernel
theorem dX9_say_85 : decode cX9_say 85 = .ok (.invokestatic 134, 3) := by decide +kernel
theorem dX9_say_88 : decode cX9_say 88 = .ok (.iload_n 1, 1) := by decide +kernel
theorem dX9_say_89 : decode cX9_say 89 = .ok (.if_icmp .ne 22, 3) := by decide +kernel
theorem dX9_say_92 : decode cX9_say 92 = .ok (.iload 8, 2) := by decide +kernel
theorem dX9_say_94 : decode cX9_say 94 = .ok (.iload_n 1, 1) := by decide +kernel
theorem dX9_say_95 : decode cX9_say 95 = .ok (.if_icmp .eq 16, 3) := by decide +kernel
theorem dX9_say_98 : decode cX9_say 98 = .ok (.aload_n 0, 1) := by decide +kernel
theorem dX9_say_99 : decode cX9_say 99 = .ok (.iload_n 2, 1) := by decide +kernel
theorem dX9_say_100 : decode cX9_say 100 = .ok (.iload 7, 2) := by decide +kernel
theorem dX9_say_102 : decode cX9_say 102 = .ok (.iload_n 1, 1) := by decide +kernel
theorem dX9_say_103 : decode cX9_say 103 = .ok (.iload 8, 2) := by decide +kernel
theorem dX9_say_105 : decode cX9_say 105 = .ok (.invokevirtual 250, 3) := by decide +kernel
theorem dX9_say_108 : decode cX9_say 108 = .ok (.goto 4, 3) := by decide +kernel
theorem dX9_say_111 : decode cX9_say 111 = .ok (.iconst (-1), 1) := by decide +kernel
theorem dX9_say_112 : decode cX9_say 112 = .ok (.istore 9, 2) := by decide +kernel
theorem dX9_say_114 : decode cX9_say 114 = .ok (.iload 9, 2) := by decide +kernel
theorem dX9_say_116 : decode cX9_say 116 = .ok (.iconst (-1), 1) := by decide +kernel
theorem dX9_say_117 : decode cX9_say 117 = .ok (.if_icmp .eq 28, 3) := by decide +kernel
theorem dX9_say_120 : decode cX9_say 120 = .ok (.iload 6, 2) := by decide +kernel
theorem dX9_say_122 : decode cX9_say 122 = .ok (.iconst (-1), 1) := by decide +kernel
theorem dX9_say_123 : decode cX9_say 123 = .ok (.if_icmp .eq 10, 3) := by decide +kernel
theorem dX9_say_126 : decode cX9_say 126 = .ok (.iload 9, 2) := by decide +kernel
theorem dX9_say_128 : decode cX9_say 128 = .ok (.iload 6, 2) := by decide +kernel
theorem dX9_say_130 : decode cX9_say 130 = .ok (.if_icmp .ge 15, 3) := by decide +kernel
theorem dX9_say_133 : decode cX9_say 133 = .ok (.iload 7, 2) := by decide +kernel
theorem dX9_say_135 : decode cX9_say 135 = .ok (.istore 4, 2) := by decide +kernel
theorem dX9_say_137 : decode cX9_say 137 = .ok (.iload 8, 2) := by decide +kernel
theorem dX9_say_139 : decode cX9_say 139 = .ok (.istore 5, 2) := by decide +kernel
theorem dX9_say_141 : decode cX9_say 141 = .ok (.iload 9, 2) := by decide +kernel
theorem dX9_say_143 : decode cX9_say 143 = .ok (.istore 6, 2) := by decide +kernel
theorem dX9_say_145 : decode cX9_say 145 = .ok (.iinc 8 1, 3) := by decide +kernel
theorem dX9_say_148 : decode cX9_say 148 = .ok (.goto (-84), 3) := by decide +kernel
theorem dX9_say_151 : decode cX9_say 151 = .ok (.iinc 7 1, 3) := by decide +kernel
theorem dX9_say_154 : decode cX9_say 154 = .ok (.goto (-105), 3) := by decide +kernel
theorem dX9_say_157 : decode cX9_say 157 = .ok (.iload_n 3, 1) := by decide +kernel
theorem dX9_say_158 : decode cX9_say 158 = .ok (.ifCond .ne 8, 3) := by decide +kernel
theorem dX9_say_161 : decode cX9_say 161 = .ok (.iload 4, 2) := by decide +kernel
theorem dX9_say_163 : decode cX9_say 163 = .ok (.goto 15, 3) := by decide +kernel
theorem dX9_say_166 : decode cX9_say 166 = .ok (.iload_n 3, 1) := by decide +kernel
theorem dX9_say_167 : decode cX9_say 167 = .ok (.iconst 1, 1) := by decide +kernel
theorem dX9_say_168 : decode cX9_say 168 = .ok (.if_icmp .ne 8, 3) := by decide +kernel
theorem dX9_say_171 : decode cX9_say 171 = .ok (.iload 5, 2) := by decide +kernel
theorem dX9_say_173 : decode cX9_say 173 = .ok (.goto 5, 3) := by decide +kernel
theorem dX9_say_176 : decode cX9_say 176 = .ok (.iload 6, 2) := by decide +kernel
theorem dX9_say_178 : decode cX9_say 178 = .ok (.ireturn, 1) := by decide +kernel
theorem dX9_learnt_0 : decode cX9_learnt 0 = .ok (.aload_n 0, 1) := by decide +kernel
theorem dX9_learnt_1 : decode cX9_learnt 1 = .ok (.getfield 26, 3) := by decide +kernel
theorem dX9_learnt_4 : decode cX9_learnt 4 = .ok (.iload_n 1, 1) := by decide +kernel
theorem dX9_learnt_5 : decode cX9_learnt 5 = .ok (.invokevirtual 162, 3) := by decide +kernel
theorem dX9_learnt_8 : decode cX9_learnt 8 = .ok (.ifCond .eq 14, 3) := by decide +kernel
theorem dX9_learnt_11 : decode cX9_learnt 11 = .ok (.aload_n 0, 1) := by decide +kernel
theorem dX9_learnt_12 : decode cX9_learnt 12 = .ok (.getfield 26, 3) := by decide +kernel
theorem dX9_learnt_15 : decode cX9_learnt 15 = .ok (.iload_n 2, 1) := by decide +kernel
theorem dX9_learnt_16 : decode cX9_learnt 16 = .ok (.invokevirtual 162, 3) := by decide +kernel
theorem dX9_learnt_19 : decode cX9_learnt 19 = .ok (.ifCond .ne 6, 3) := by decide +kernel
theorem dX9_learnt_22 : decode cX9_learnt 22 = .ok (.ldc 129, 2) := by decide +kernel
theorem dX9_learnt_24 : decode cX9_learnt 24 = .ok (.ireturn, 1) := by decide +kernel
theorem dX9_learnt_25 : decode cX9_learnt 25 = .ok (.iload_n 3, 1) := by decide +kernel
theorem dX9_learnt_26 : decode cX9_learnt 26 = .ok (.ifCond .lt 21, 3) := by decide +kernel
theorem dX9_learnt_29 : decode cX9_learnt 29 = .ok (.iload_n 3, 1) := by decide +kernel
theorem dX9_learnt_30 : decode cX9_learnt 30 = .ok (.sipush 999, 3) := by decide +kernel
theorem dX9_learnt_33 : decode cX9_learnt 33 = .ok (.if_icmp .gt 14, 3) := by decide +kernel
theorem dX9_learnt_36 : decode cX9_learnt 36 = .ok (.iload 4, 2) := by decide +kernel
theorem dX9_learnt_38 : decode cX9_learnt 38 = .ok (.ifCond .lt 9, 3) := by decide +kernel
theorem dX9_learnt_41 : decode cX9_learnt 41 = .ok (.iload 4, 2) := by decide +kernel
theorem dX9_learnt_43 : decode cX9_learnt 43 = .ok (.iconst 4, 1) := by decide +kernel
theorem dX9_learnt_44 : decode cX9_learnt 44 = .ok (.if_icmp .le 6, 3) := by decide +kernel
theorem dX9_learnt_47 : decode cX9_learnt 47 = .ok (.ldc 76, 2) := by decide +kernel
theorem dX9_learnt_49 : decode cX9_learnt 49 = .ok (.ireturn, 1) := by decide +kernel
theorem dX9_learnt_50 : decode cX9_learnt 50 = .ok (.aload_n 0, 1) := by decide +kernel
theorem dX9_learnt_51 : decode cX9_learnt 51 = .ok (.iload_n 1, 1) := by decide +kernel
theorem dX9_learnt_52 : decode cX9_learnt 52 = .ok (.iload_n 2, 1) := by decide +kernel
theorem dX9_learnt_53 : decode cX9_learnt 53 = .ok (.invokevirtual 165, 3) := by decide +kernel
theorem dX9_learnt_56 : decode cX9_learnt 56 = .ok (.istore 5, 2) := by decide +kernel
theorem dX9_learnt_58 : decode cX9_learnt 58 = .ok (.iload 5, 2) := by decide +kernel
theorem dX9_learnt_60 : decode cX9_learnt 60 = .ok (.iconst (-1), 1) := by decide +kernel
theorem dX9_learnt_61 : decode cX9_learnt 61 = .ok (.if_icmp .eq 9, 3) := by decide +kernel
theorem dX9_learnt_64 : decode cX9_learnt 64 = .ok (.iload 5, 2) := by decide +kernel
theorem dX9_learnt_66 : decode cX9_learnt 66 = .ok (.iload_n 3, 1) := by decide +kernel
theorem dX9_learnt_67 : decode cX9_learnt 67 = .ok (.if_icmp .le 5, 3) := by decide +kernel
theorem dX9_learnt_70 : decode cX9_learnt 70 = .ok (.iconst (-1), 1) := by decide +kernel
theorem dX9_learnt_71 : decode cX9_learnt 71 = .ok (.ireturn, 1) := by decide +kernel
theorem dX9_learnt_72 : decode cX9_learnt 72 = .ok (.aload_n 0, 1) := by decide +kernel
theorem dX9_learnt_73 : decode cX9_learnt 73 = .ok (.getfield 51, 3) := by decide +kernel
theorem dX9_learnt_76 : decode cX9_learnt 76 = .ok (.iload_n 1, 1) := by decide +kernel
theorem dX9_learnt_77 : decode cX9_learnt 77 = .ok (.iload_n 2, 1) := by decide +kernel
theorem dX9_learnt_78 : decode cX9_learnt 78 = .ok (.iload_n 3, 1) := by decide +kernel
theorem dX9_learnt_79 : decode cX9_learnt 79 = .ok (.invokevirtual 253, 3) := by decide +kernel
theorem dX9_learnt_82 : decode cX9_learnt 82 = .ok (.aload_n 0, 1) := by decide +kernel
theorem dX9_learnt_83 : decode cX9_learnt 83 = .ok (.getfield 51, 3) := by decide +kernel
theorem dX9_learnt_86 : decode cX9_learnt 86 = .ok (.getfield 256, 3) := by decide +kernel
theorem dX9_learnt_89 : decode cX9_learnt 89 = .ok (.iconst (-1), 1) := by decide +kernel
theorem dX9_learnt_90 : decode cX9_learnt 90 = .ok (.if_icmp .ne 10, 3) := by decide +kernel
theorem dX9_learnt_93 : decode cX9_learnt 93 = .ok (.aload_n 0, 1) := by decide +kernel
theorem dX9_learnt_94 : decode cX9_learnt 94 = .ok (.getfield 51, 3) := by decide +kernel
theorem dX9_learnt_97 : decode cX9_learnt 97 = .ok (.invokevirtual 259, 3) := by decide +kernel
theorem dX9_learnt_100 : decode cX9_learnt 100 = .ok (.aload_n 0, 1) := by decide +kernel
theorem dX9_learnt_101 : decode cX9_learnt 101 = .ok (.getfield 51, 3) := by decide +kernel
theorem dX9_learnt_104 : decode cX9_learnt 104 = .ok (.getfield 256, 3) := by decide +kernel
theorem dX9_learnt_107 : decode cX9_learnt 107 = .ok (.iconst (-1), 1) := by decide +kernel
theorem dX9_learnt_108 : decode cX9_learnt 108 = .ok (.if_icmp .ne 10, 3) := by decide +kernel
theorem dX9_learnt_111 : decode cX9_learnt 111 = .ok (.aload_n 0, 1) := by decide +kernel
theorem dX9_learnt_112 : decode cX9_learnt 112 = .ok (.getfield 51, 3) := by decide +kernel
theorem dX9_learnt_115 : decode cX9_learnt 115 = .ok (.invokevirtual 262, 3) := by decide +kernel
theorem dX9_learnt_118 : decode cX9_learnt 118 = .ok (.aload_n 0, 1) := by decide +kernel
theorem dX9_learnt_119 : decode cX9_learnt 119 = .ok (.getfield 51, 3) := by decide +kernel
theorem dX9_learnt_122 : decode cX9_learnt 122 = .ok (.iload 4, 2) := by decide +kernel
theorem dX9_learnt_124 : decode cX9_learnt 124 = .ok (.invokevirtual 265, 3) := by decide +kernel
theorem dX9_learnt_127 : decode cX9_learnt 127 = .ok (.ireturn, 1) := by decide +kernel
theorem dX9_missing_0 : decode cX9_missing 0 = .ok (.aload_n 0, 1) := by decide +kernel
theorem dX9_missing_1 : decode cX9_missing 1 = .ok (.getfield 26, 3) := by decide +kernel
theorem dX9_missing_4 : decode cX9_missing 4 = .ok (.iload_n 1, 1) := by decide +kernel
theorem dX9_missing_5 : decode cX9_missing 5 = .ok (.invokevirtual 144, 3) := by decide +kernel
theorem dX9_missing_8 : decode cX9_missing 8 = .ok (.ifCond .ne 6, 3) := by decide +kernel
theorem dX9_missing_11 : decode cX9_missing 11 = .ok (.ldc 129, 2) := by decide +kernel
theorem dX9_missing_13 : decode cX9_missing 13 = .ok (.ireturn, 1) := by decide +kernel
theorem dX9_missing_14 : decode cX9_missing 14 = .ok (.iload_n 2, 1) := by decide +kernel
theorem dX9_missing_15 : decode cX9_missing 15 = .ok (.ifCond .lt 10, 3) := by decide +kernel
theorem dX9_missing_18 : decode cX9_missing 18 = .ok (.iload_n 2, 1) := by decide +kernel
theorem dX9_missing_19 : decode cX9_missing 19 = .ok (.sipush 999, 3) := by decide +kernel
theorem dX9_missing_22 : decode cX9_missing 22 = .ok (.if_icmp .le 8, 3) := by decide +kernel
theorem dX9_missing_25 : decode cX9_missing 25 = .ok (.ldc 76, 2) := by decide +kernel
theorem dX9_missing_27 : decode cX9_missing 27 = .ok (.goto 9, 3) := by decide +kernel
theorem dX9_missing_30 : decode cX9_missing 30 = .ok (.aload_n 0, 1) := by decide +kernel
theorem dX9_missing_31 : decode cX9_missing 31 = .ok (.iload_n 1, 1) := by decide +kernel
theorem dX9_missing_32 : decode cX9_missing 32 = .ok (.iload_n 2, 1) := by decide +kernel
theorem dX9_missing_33 : decode cX9_missing 33 = .ok (.invokevirtual 268, 3) := by decide +kernel
theorem dX9_missing_36 : decode cX9_missing 36 = .ok (.ireturn, 1) := by decide +kernel
theorem dX9_lack_0 : decode cX9_lack 0 = .ok (.aload_n 0, 1) := by decide +kernel
theorem dX9_lack_1 : decode cX9_lack 1 = .ok (.getfield 26, 3) := by decide +kernel
theorem dX9_lack_4 : decode cX9_lack 4 = .ok (.iload_n 1, 1) := by decide +kernel
theorem dX9_lack_5 : decode cX9_lack 5 = .ok (.invokevirtual 144, 3) := by decide +kernel
theorem dX9_lack_8 : decode cX9_lack 8 = .ok (.ifCond .ne 6, 3) := by decide +kernel
theorem dX9_lack_11 : decode cX9_lack 11 = .ok (.ldc 129, 2) := by decide +kernel
theorem dX9_lack_13 : decode cX9_lack 13 = .ok (.ireturn, 1) := by decide +kernel
theorem dX9_lack_14 : decode cX9_lack 14 = .ok (.iload_n 2, 1) := by decide +kernel
theorem dX9_lack_15 : decode cX9_lack 15 = .ok (.ifCond .lt 10, 3) := by decide +kernel
theorem dX9_lack_18 : decode cX9_lack 18 = .ok (.iload_n 2, 1) := by decide +kernel
theorem dX9_lack_19 : decode cX9_lack 19 = .ok (.sipush 999, 3) := by decide +kernel
theorem dX9_lack_22 : decode cX9_lack 22 = .ok (.if_icmp .le 6, 3) := by decide +kernel
theorem dX9_lack_25 : decode cX9_lack 25 = .ok (.ldc 76, 2) := by decide +kernel
theorem dX9_lack_27 : decode cX9_lack 27 = .ok (.ireturn, 1) := by decide +kernel
theorem dX9_lack_28 : decode cX9_lack 28 = .ok (.aload_n 0, 1) := by decide +kernel
theorem dX9_lack_29 : decode cX9_lack 29 = .ok (.getfield 65, 3) := by decide +kernel
theorem dX9_lack_32 : decode cX9_lack 32 = .ok (.iload_n 1, 1) := by decide +kernel
theorem dX9_lack_33 : decode cX9_lack 33 = .ok (.iload_n 2, 1) := by decide +kernel
theorem dX9_lack_34 : decode cX9_lack 34 = .ok (.invokevirtual 271, 3) := by decide +kernel
theorem dX9_lack_37 : decode cX9_lack 37 = .ok (.ireturn, 1) := by decide +kernel
theorem dX9_fits_0 : decode cX9_fits 0 = .ok (.iconst 0, 1) := by decide +kernel
theorem dX9_fits_1 : decode cX9_fits 1 = .ok (.istore_n 1, 1) := by decide +kernel
theorem dX9_fits_2 : decode cX9_fits 2 = .ok (.iload_n 1, 1) := by decide +kernel
theorem dX9_fits_3 : decode cX9_fits 3 = .ok (.aload_n 0, 1) := by decide +kernel
theorem dX9_fits_4 : decode cX9_fits 4 = .ok (.getfield 65, 3) := by decide +kernel
theorem dX9_fits_7 : decode cX9_fits 7 = .ok (.getfield 122, 3) := by decide +kernel
theorem dX9_fits_10 : decode cX9_fits 10 = .ok (.if_icmp .ge 40, 3) := by decide +kernel
theorem dX9_fits_13 : decode cX9_fits 13 = .ok (.aload_n 0, 1) := by decide +kernel
theorem dX9_fits_14 : decode cX9_fits 14 = .ok (.aload_n 0, 1) := by decide +kernel
theorem dX9_fits_15 : decode cX9_fits 15 = .ok (.getfield 65, 3) := by decide +kernel
theorem dX9_fits_18 : decode cX9_fits 18 = .ok (.getfield 274, 3) := by decide +kernel
theorem dX9_fits_21 : decode cX9_fits 21 = .ok (.iload_n 1, 1) := by decide +kernel
theorem dX9_fits_22 : decode cX9_fits 22 = .ok (.invokestatic 134, 3) := by decide +kernel
theorem dX9_fits_25 : decode cX9_fits 25 = .ok (.aload_n 0, 1) := by decide +kernel
theorem dX9_fits_26 : decode cX9_fits 26 = .ok (.getfield 65, 3) := by decide +kernel
theorem dX9_fits_29 : decode cX9_fits 29 = .ok (.getfield 277, 3) := by decide +kernel
theorem dX9_fits_32 : decode cX9_fits 32 = .ok (.iload_n 1, 1) := by decide +kernel
theorem dX9_fits_33 : decode cX9_fits 33 = .ok (.invokestatic 134, 3) := by decide +kernel
theorem dX9_fits_36 : decode cX9_fits 36 = .ok (.invokevirtual 268, 3) := by decide +kernel
theorem dX9_fits_39 : decode cX9_fits 39 = .ok (.ifCond .ne 5, 3) := by decide +kernel
theorem dX9_fits_42 : decode cX9_fits 42 = .ok (.iconst 0, 1) := by decide +kernel
theorem dX9_fits_43 : decode cX9_fits 43 = .ok (.ireturn, 1) := by decide +kernel
theorem dX9_fits_44 : decode cX9_fits 44 = .ok (.iinc 1 1, 3) := by decide +kernel
theorem dX9_fits_47 : decode cX9_fits 47 = .ok (.goto (-45), 3) := by decide +kernel
theorem dX9_fits_50 : decode cX9_fits 50 = .ok (.iconst 1, 1) := by decide +kernel
theorem dX9_fits_51 : decode cX9_fits 51 = .ok (.ireturn, 1) := by decide +kernel
theorem dX9_log_0 : decode cX9_log 0 = .ok (.aload_n 0, 1) := by decide +kernel
theorem dX9_log_1 : decode cX9_log 1 = .ok (.getfield 26, 3) := by decide +kernel
theorem dX9_log_4 : decode cX9_log 4 = .ok (.iload_n 1, 1) := by decide +kernel
theorem dX9_log_5 : decode cX9_log 5 = .ok (.invokevirtual 144, 3) := by decide +kernel
theorem dX9_log_8 : decode cX9_log 8 = .ok (.ifCond .eq 26, 3) := by decide +kernel
theorem dX9_log_11 : decode cX9_log 11 = .ok (.aload_n 0, 1) := by decide +kernel
theorem dX9_log_12 : decode cX9_log 12 = .ok (.getfield 26, 3) := by decide +kernel
theorem dX9_log_15 : decode cX9_log 15 = .ok (.iload_n 2, 1) := by decide +kernel
theorem dX9_log_16 : decode cX9_log 16 = .ok (.invokevirtual 162, 3) := by decide +kernel
theorem dX9_log_19 : decode cX9_log 19 = .ok (.ifCond .eq 15, 3) := by decide +kernel
theorem dX9_log_22 : decode cX9_log 22 = .ok (.aload_n 0, 1) := by decide +kernel
theorem dX9_log_23 : decode cX9_log 23 = .ok (.getfield 26, 3) := by decide +kernel
theorem dX9_log_26 : decode cX9_log 26 = .ok (.iload 4, 2) := by decide +kernel
theorem dX9_log_28 : decode cX9_log 28 = .ok (.invokevirtual 162, 3) := by decide +kernel
theorem dX9_log_31 : decode cX9_log 31 = .ok (.ifCond .ne 6, 3) := by decide +kernel
theorem dX9_log_34 : decode cX9_log 34 = .ok (.ldc 129, 2) := by decide +kernel
theorem dX9_log_36 : decode cX9_log 36 = .ok (.ireturn, 1) := by decide +kernel
theorem dX9_log_37 : decode cX9_log 37 = .ok (.iload_n 3, 1) := by decide +kernel
theorem dX9_log_38 : decode cX9_log 38 = .ok (.ifCond .lt 9, 3) := by decide +kernel
theorem dX9_log_41 : decode cX9_log 41 = .ok (.iload_n 3, 1) := by decide +kernel
theorem dX9_log_42 : decode cX9_log 42 = .ok (.bipush 9, 2) := by decide +kernel
theorem dX9_log_44 : decode cX9_log 44 = .ok (.if_icmp .le 6, 3) := by decide +kernel
theorem dX9_log_47 : decode cX9_log 47 = .ok (.ldc 76, 2) := by decide +kernel
theorem dX9_log_49 : decode cX9_log 49 = .ok (.ireturn, 1) := by decide +kernel
theorem dX9_log_50 : decode cX9_log 50 = .ok (.aload_n 0, 1) := by decide +kernel
theorem dX9_log_51 : decode cX9_log 51 = .ok (.getfield 65, 3) := by decide +kernel
theorem dX9_log_54 : decode cX9_log 54 = .ok (.iload_n 1, 1) := by decide +kernel
theorem dX9_log_55 : decode cX9_log 55 = .ok (.iload_n 2, 1) := by decide +kernel
theorem dX9_log_56 : decode cX9_log 56 = .ok (.iload_n 3, 1) := by decide +kernel
theorem dX9_log_57 : decode cX9_log 57 = .ok (.iload 4, 2) := by decide +kernel
theorem dX9_log_59 : decode cX9_log 59 = .ok (.invokevirtual 280, 3) := by decide +kernel
theorem dX9_log_62 : decode cX9_log 62 = .ok (.ireturn, 1) := by decide +kernel
theorem dX9_clear_0 : decode cX9_clear 0 = .ok (.aload_n 0, 1) := by decide +kernel
theorem dX9_clear_1 : decode cX9_clear 1 = .ok (.getfield 65, 3) := by decide +kernel
theorem dX9_clear_4 : decode cX9_clear 4 = .ok (.getfield 119, 3) := by decide +kernel
theorem dX9_clear_7 : decode cX9_clear 7 = .ok (.aload_n 0, 1) := by decide +kernel
theorem dX9_clear_8 : decode cX9_clear 8 = .ok (.getfield 65, 3) := by decide +kernel
theorem dX9_clear_11 : decode cX9_clear 11 = .ok (.getfield 122, 3) := by decide +kernel
theorem dX9_clear_14 : decode cX9_clear 14 = .ok (.iadd, 1) := by decide +kernel
theorem dX9_clear_15 : decode cX9_clear 15 = .ok (.istore_n 1, 1) := by decide +kernel
theorem dX9_clear_16 : decode cX9_clear 16 = .ok (.aload_n 0, 1) := by decide +kernel
theorem dX9_clear_17 : decode cX9_clear 17 = .ok (.getfield 65, 3) := by decide +kernel
theorem dX9_clear_20 : decode cX9_clear 20 = .ok (.invokevirtual 97, 3) := by decide +kernel
theorem dX9_clear_23 : decode cX9_clear 23 = .ok (.iload_n 1, 1) := by decide +kernel
theorem dX9_clear_24 : decode cX9_clear 24 = .ok (.ireturn, 1) := by decide +kernel
theorem dX9_judge_0 : decode cX9_judge 0 = .ok (.iconst 0, 1) := by decide +kernel
theorem dX9_judge_1 : decode cX9_judge 1 = .ok (.istore_n 1, 1) := by decide +kernel
theorem dX9_judge_2 : decode cX9_judge 2 = .ok (.iload_n 1, 1) := by decide +kernel
theorem dX9_judge_3 : decode cX9_judge 3 = .ok (.aload_n 0, 1) := by decide +kernel
theorem dX9_judge_4 : decode cX9_judge 4 = .ok (.getfield 65, 3) := by decide +kernel
theorem dX9_judge_7 : decode cX9_judge 7 = .ok (.getfield 119, 3) := by decide +kernel
theorem dX9_judge_10 : decode cX9_judge 10 = .ok (.if_icmp .ge 115, 3) := by decide +kernel
theorem dX9_judge_13 : decode cX9_judge 13 = .ok (.aload_n 0, 1) := by decide +kernel
theorem dX9_judge_14 : decode cX9_judge 14 = .ok (.getfield 65, 3) := by decide +kernel
theorem dX9_judge_17 : decode cX9_judge 17 = .ok (.getfield 283, 3) := by decide +kernel
theorem dX9_judge_20 : decode cX9_judge 20 = .ok (.iload_n 1, 1) := by decide +kernel
theorem dX9_judge_21 : decode cX9_judge 21 = .ok (.invokestatic 134, 3) := by decide +kernel
theorem dX9_judge_24 : decode cX9_judge 24 = .ok (.istore_n 2, 1) := by decide +kernel
theorem dX9_judge_25 : decode cX9_judge 25 = .ok (.aload_n 0, 1) := by decide +kernel
theorem dX9_judge_26 : decode cX9_judge 26 = .ok (.getfield 65, 3) := by decide +kernel
theorem dX9_judge_29 : decode cX9_judge 29 = .ok (.getfield 285, 3) := by decide +kernel
theorem dX9_judge_32 : decode cX9_judge 32 = .ok (.iload_n 1, 1) := by decide +kernel
theorem dX9_judge_33 : decode cX9_judge 33 = .ok (.invokestatic 134, 3) := by decide +kernel
theorem dX9_judge_36 : decode cX9_judge 36 = .ok (.istore_n 3, 1) := by decide +kernel
theorem dX9_judge_37 : decode cX9_judge 37 = .ok (.aload_n 0, 1) := by decide +kernel
theorem dX9_judge_38 : decode cX9_judge 38 = .ok (.iload_n 2, 1) := by decide +kernel
theorem dX9_judge_39 : decode cX9_judge 39 = .ok (.aload_n 0, 1) := by decide +kernel
theorem dX9_judge_40 : decode cX9_judge 40 = .ok (.getfield 26, 3) := by decide +kernel
theorem dX9_judge_43 : decode cX9_judge 43 = .ok (.getfield 147, 3) := by decide +kernel
theorem dX9_judge_46 : decode cX9_judge 46 = .ok (.iload_n 2, 1) := by decide +kernel
theorem dX9_judge_47 : decode cX9_judge 47 = .ok (.invokestatic 134, 3) := by decide +kernel
theorem dX9_judge_50 : decode cX9_judge 50 = .ok (.aload_n 0, 1) := by decide +kernel
theorem dX9_judge_51 : decode cX9_judge 51 = .ok (.getfield 65, 3) := by decide +kernel
theorem dX9_judge_54 : decode cX9_judge 54 = .ok (.getfield 287, 3) := by decide +kernel
theorem dX9_judge_57 : decode cX9_judge 57 = .ok (.iload_n 1, 1) := by decide +kernel
theorem dX9_judge_58 : decode cX9_judge 58 = .ok (.invokestatic 134, 3) := by decide +kernel
theorem dX9_judge_61 : decode cX9_judge 61 = .ok (.invokevirtual 177, 3) := by decide +kernel
theorem dX9_judge_64 : decode cX9_judge 64 = .ok (.iload_n 3, 1) := by decide +kernel
theorem dX9_judge_65 : decode cX9_judge 65 = .ok (.iconst 0, 1) := by decide +kernel
theorem dX9_judge_66 : decode cX9_judge 66 = .ok (.aload_n 0, 1) := by decide +kernel
theorem dX9_judge_67 : decode cX9_judge 67 = .ok (.getfield 33, 3) := by decide +kernel
theorem dX9_judge_70 : decode cX9_judge 70 = .ok (.getfield 181, 3) := by decide +kernel
theorem dX9_judge_73 : decode cX9_judge 73 = .ok (.invokestatic 290, 3) := by decide +kernel
theorem dX9_judge_76 : decode cX9_judge 76 = .ok (.if_icmp .le 7, 3) := by decide +kernel
theorem dX9_judge_79 : decode cX9_judge 79 = .ok (.iconst 1, 1) := by decide +kernel
theorem dX9_judge_80 : decode cX9_judge 80 = .ok (.goto 4, 3) := by decide +kernel
theorem dX9_judge_83 : decode cX9_judge 83 = .ok (.iconst 0, 1) := by decide +kernel
theorem dX9_judge_84 : decode cX9_judge 84 = .ok (.istore 4, 2) := by decide +kernel
theorem dX9_judge_86 : decode cX9_judge 86 = .ok (.iload 4, 2) := by decide +kernel
theorem dX9_judge_88 : decode cX9_judge 88 = .ok (.ifCond .ne 29, 3) := by decide +kernel
theorem dX9_judge_91 : decode cX9_judge 91 = .ok (.aload_n 0, 1) := by decide +kernel
theorem dX9_judge_92 : decode cX9_judge 92 = .ok (.getfield 33, 3) := by decide +kernel
theorem dX9_judge_95 : decode cX9_judge 95 = .ok (.aload_n 0, 1) := by decide +kernel
theorem dX9_judge_96 : decode cX9_judge 96 = .ok (.getfield 116, 3) := by decide +kernel
theorem dX9_judge_99 : decode cX9_judge 99 = .ok (.iload_n 3, 1) := by decide +kernel
theorem dX9_judge_100 : decode cX9_judge 100 = .ok (.invokevirtual 194, 3) := by decide +kernel
theorem dX9_judge_103 : decode cX9_judge 103 = .ok (.aload_n 0, 1) := by decide +kernel
theorem dX9_judge_104 : decode cX9_judge 104 = .ok (.getfield 65, 3) := by decide +kernel
theorem dX9_judge_107 : decode cX9_judge 107 = .ok (.getfield 295, 3) := by decide +kernel
theorem dX9_judge_110 : decode cX9_judge 110 = .ok (.iload_n 1, 1) := by decide +kernel
theorem dX9_judge_111 : decode cX9_judge 111 = .ok (.invokestatic 134, 3) := by decide +kernel
theorem dX9_judge_114 : decode cX9_judge 114 = .ok (.if_icmp .eq 5, 3) := by decide +kernel
theorem dX9_judge_117 : decode cX9_judge 117 = .ok (.iload_n 1, 1) := by decide +kernel
theorem dX9_judge_118 : decode cX9_judge 118 = .ok (.ireturn, 1) := by decide +kernel
theorem dX9_judge_119 : decode cX9_judge 119 = .ok (.iinc 1 1, 3) := by decide +kernel
theorem dX9_judge_122 : decode cX9_judge 122 = .ok (.goto (-120), 3) := by decide +kernel
theorem dX9_judge_125 : decode cX9_judge 125 = .ok (.iconst (-1), 1) := by decide +kernel
theorem dX9_judge_126 : decode cX9_judge 126 = .ok (.ireturn, 1) := by decide +kernel
theorem dX9_drift_0 : decode cX9_drift 0 = .ok (.iload_n 1, 1) := by decide +kernel
theorem dX9_drift_1 : decode cX9_drift 1 = .ok (.iconst 1, 1) := by decide +kernel
theorem dX9_drift_2 : decode cX9_drift 2 = .ok (.if_icmp .lt 18, 3) := by decide +kernel
theorem dX9_drift_5 : decode cX9_drift 5 = .ok (.iload_n 1, 1) := by decide +kernel
theorem dX9_drift_6 : decode cX9_drift 6 = .ok (.bipush 99, 2) := by decide +kernel
theorem dX9_drift_8 : decode cX9_drift 8 = .ok (.if_icmp .gt 12, 3) := by decide +kernel
theorem dX9_drift_11 : decode cX9_drift 11 = .ok (.iload_n 2, 1) := by decide +kernel
theorem dX9_drift_12 : decode cX9_drift 12 = .ok (.ifCond .lt 8, 3) := by decide +kernel
theorem dX9_drift_15 : decode cX9_drift 15 = .ok (.iload_n 2, 1) := by decide +kernel
theorem dX9_drift_16 : decode cX9_drift 16 = .ok (.iconst 1, 1) := by decide +kernel
theorem dX9_drift_17 : decode cX9_drift 17 = .ok (.if_icmp .le 6, 3) := by decide +kernel
theorem dX9_drift_20 : decode cX9_drift 20 = .ok (.ldc 76, 2) := by decide +kernel
theorem dX9_drift_22 : decode cX9_drift 22 = .ok (.ireturn, 1) := by decide +kernel
theorem dX9_drift_23 : decode cX9_drift 23 = .ok (.aload_n 0, 1) := by decide +kernel
theorem dX9_drift_24 : decode cX9_drift 24 = .ok (.getfield 26, 3) := by decide +kernel
theorem dX9_drift_27 : decode cX9_drift 27 = .ok (.getfield 104, 3) := by decide +kernel
theorem dX9_drift_30 : decode cX9_drift 30 = .ok (.ifCond .ne 7, 3) := by decide +kernel
theorem dX9_drift_33 : decode cX9_drift 33 = .ok (.ldc_w 298, 3) := by decide +kernel
theorem dX9_drift_36 : decode cX9_drift 36 = .ok (.ireturn, 1) := by decide +kernel
theorem dX9_drift_37 : decode cX9_drift 37 = .ok (.iconst 0, 1) := by decide +kernel
theorem dX9_drift_38 : decode cX9_drift 38 = .ok (.istore_n 3, 1) := by decide +kernel
theorem dX9_drift_39 : decode cX9_drift 39 = .ok (.iconst 0, 1) := by decide +kernel
theorem dX9_drift_40 : decode cX9_drift 40 = .ok (.istore 4, 2) := by decide +kernel
theorem dX9_drift_42 : decode cX9_drift 42 = .ok (.iconst 0, 1) := by decide +kernel
theorem dX9_drift_43 : decode cX9_drift 43 = .ok (.istore 5, 2) := by decide +kernel
theorem dX9_drift_45 : decode cX9_drift 45 = .ok (.iconst 0, 1) := by decide +kernel
theorem dX9_drift_46 : decode cX9_drift 46 = .ok (.istore 6, 2) := by decide +kernel
theorem dX9_drift_48 : decode cX9_drift 48 = .ok (.iload 6, 2) := by decide +kernel
theorem dX9_drift_50 : decode cX9_drift 50 = .ok (.iload_n 1, 1) := by decide +kernel
theorem dX9_drift_51 : decode cX9_drift 51 = .ok (.if_icmp .ge 115, 3) := by decide +kernel
theorem dX9_drift_54 : decode cX9_drift 54 = .ok (.aload_n 0, 1) := by decide +kernel
theorem dX9_drift_55 : decode cX9_drift 55 = .ok (.getfield 58, 3) := by decide +kernel
theorem dX9_drift_58 : decode cX9_drift 58 = .ok (.aload_n 0, 1) := by decide +kernel
theorem dX9_drift_59 : decode cX9_drift 59 = .ok (.getfield 26, 3) := by decide +kernel
theorem dX9_drift_62 : decode cX9_drift 62 = .ok (.getfield 104, 3) := by decide +kernel
theorem dX9_drift_65 : decode cX9_drift 65 = .ok (.invokevirtual 299, 3) := by decide +kernel
theorem dX9_drift_68 : decode cX9_drift 68 = .ok (.istore 7, 2) := by decide +kernel
theorem dX9_drift_70 : decode cX9_drift 70 = .ok (.aload_n 0, 1) := by decide +kernel
theorem dX9_drift_71 : decode cX9_drift 71 = .ok (.getfield 58, 3) := by decide +kernel
theorem dX9_drift_74 : decode cX9_drift 74 = .ok (.aload_n 0, 1) := by decide +kernel
theorem dX9_drift_75 : decode cX9_drift 75 = .ok (.getfield 26, 3) := by decide +kernel
theorem dX9_drift_78 : decode cX9_drift 78 = .ok (.getfield 104, 3) := by decide +kernel
theorem dX9_drift_81 : decode cX9_drift 81 = .ok (.invokevirtual 299, 3) := by decide +kernel
theorem dX9_drift_84 : decode cX9_drift 84 = .ok (.istore 8, 2) := by decide +kernel
theorem dX9_drift_86 : decode cX9_drift 86 = .ok (.iload 5, 2) := by decide +kernel
theorem dX9_drift_88 : decode cX9_drift 88 = .ok (.iload 8, 2) := by decide +kernel
theorem dX9_drift_90 : decode cX9_drift 90 = .ok (.ishr, 1) := by decide +kernel
theorem dX9_drift_91 : decode cX9_drift 91 = .ok (.iconst 1, 1) := by decide +kernel
theorem dX9_drift_92 : decode cX9_drift 92 = .ok (.iand, 1) := by decide +kernel
theorem dX9_drift_93 : decode cX9_drift 93 = .ok (.iconst 1, 1) := by decide +kernel
theorem dX9_drift_94 : decode cX9_drift 94 = .ok (.if_icmp .ne 12, 3) := by decide +kernel
theorem dX9_drift_97 : decode cX9_drift 97 = .ok (.aload_n 0, 1) := by decide +kernel
theorem dX9_drift_98 : decode cX9_drift 98 = .ok (.iload 8, 2) := by decide +kernel
theorem dX9_drift_100 : decode cX9_drift 100 = .ok (.invokevirtual 302, 3) := by decide +kernel
theorem dX9_drift_103 : decode cX9_drift 103 = .ok (.goto 10, 3) := by decide +kernel
theorem dX9_drift_106 : decode cX9_drift 106 = .ok (.aload_n 0, 1) := by decide +kernel
theorem dX9_drift_107 : decode cX9_drift 107 = .ok (.iload 8, 2) := by decide +kernel
theorem dX9_drift_109 : decode cX9_drift 109 = .ok (.iconst 0, 1) := by decide +kernel
theorem dX9_drift_110 : decode cX9_drift 110 = .ok (.invokevirtual 208, 3) := by decide +kernel
theorem dX9_drift_113 : decode cX9_drift 113 = .ok (.astore 9, 2) := by decide +kernel
theorem dX9_drift_115 : decode cX9_drift 115 = .ok (.iload 5, 2) := by decide +kernel
theorem dX9_drift_117 : decode cX9_drift 117 = .ok (.iconst 1, 1) := by decide +kernel
theorem dX9_drift_118 : decode cX9_drift 118 = .ok (.iload 8, 2) := by decide +kernel
theorem dX9_drift_120 : decode cX9_drift 120 = .ok (.ishl, 1) := by decide +kernel
theorem dX9_drift_121 : decode cX9_drift 121 = .ok (.ior, 1) := by decide +kernel
theorem dX9_drift_122 : decode cX9_drift 122 = .ok (.istore 5, 2) := by decide +kernel
theorem dX9_drift_124 : decode cX9_drift 124 = .ok (.aload 9, 2) := by decide +kernel
theorem dX9_drift_126 : decode cX9_drift 126 = .ok (.iload 7, 2) := by decide +kernel
theorem dX9_drift_128 : decode cX9_drift 128 = .ok (.iload 8, 2) := by decide +kernel
theorem dX9_drift_130 : decode cX9_drift 130 = .ok (.aload_n 0, 1) := by decide +kernel
theorem dX9_drift_131 : decode cX9_drift 131 = .ok (.getfield 58, 3) := by decide +kernel
theorem dX9_drift_134 : decode cX9_drift 134 = .ok (.invokevirtual 212, 3) := by decide +kernel
theorem dX9_drift_137 : decode cX9_drift 137 = .ok (.aload 9, 2) := by decide +kernel
theorem dX9_drift_139 : decode cX9_drift 139 = .ok (.getfield 219, 3) := by decide +kernel
theorem dX9_drift_142 : decode cX9_drift 142 = .ok (.iload 8, 2) := by decide +kernel
theorem dX9_drift_144 : decode cX9_drift 144 = .ok (.if_icmp .ne 16, 3) := by decide +kernel
theorem dX9_drift_147 : decode cX9_drift 147 = .ok (.iinc 3 1, 3) := by decide +kernel
theorem dX9_drift_150 : decode cX9_drift 150 = .ok (.iload 4, 2) := by decide +kernel
theorem dX9_drift_152 : decode cX9_drift 152 = .ok (.aload 9, 2) := by decide +kernel
theorem dX9_drift_154 : decode cX9_drift 154 = .ok (.getfield 216, 3) := by decide +kernel
theorem dX9_drift_157 : decode cX9_drift 157 = .ok (.iadd, 1) := by decide +kernel
theorem dX9_drift_158 : decode cX9_drift 158 = .ok (.istore 4, 2) := by decide +kernel
theorem dX9_drift_160 : decode cX9_drift 160 = .ok (.iinc 6 1, 3) := by decide +kernel
theorem dX9_drift_163 : decode cX9_drift 163 = .ok (.goto (-115), 3) := by decide +kernel
theorem dX9_drift_166 : decode cX9_drift 166 = .ok (.iload_n 2, 1) := by decide +kernel
theorem dX9_drift_167 : decode cX9_drift 167 = .ok (.ifCond .ne 7, 3) := by decide +kernel
theorem dX9_drift_170 : decode cX9_drift 170 = .ok (.iload_n 3, 1) := by decide +kernel
theorem dX9_drift_171 : decode cX9_drift 171 = .ok (.goto 5, 3) := by decide +kernel
theorem dX9_drift_174 : decode cX9_drift 174 = .ok (.iload 4, 2) := by decide +kernel
theorem dX9_drift_176 : decode cX9_drift 176 = .ok (.ireturn, 1) := by decide +kernel
theorem dX9_seed_0 : decode cX9_seed 0 = .ok (.iload_n 1, 1) := by decide +kernel
theorem dX9_seed_1 : decode cX9_seed 1 = .ok (.ifCond .ge 6, 3) := by decide +kernel
theorem dX9_seed_4 : decode cX9_seed 4 = .ok (.ldc 76, 2) := by decide +kernel
theorem dX9_seed_6 : decode cX9_seed 6 = .ok (.ireturn, 1) := by decide +kernel
theorem dX9_seed_7 : decode cX9_seed 7 = .ok (.aload_n 0, 1) := by decide +kernel
theorem dX9_seed_8 : decode cX9_seed 8 = .ok (.getfield 58, 3) := by decide +kernel
theorem dX9_seed_11 : decode cX9_seed 11 = .ok (.getfield 306, 3) := by decide +kernel
theorem dX9_seed_14 : decode cX9_seed 14 = .ok (.istore_n 2, 1) := by decide +kernel
theorem dX9_seed_15 : decode cX9_seed 15 = .ok (.aload_n 0, 1) := by decide +kernel
theorem dX9_seed_16 : decode cX9_seed 16 = .ok (.getfield 58, 3) := by decide +kernel
theorem dX9_seed_19 : decode cX9_seed 19 = .ok (.iload_n 1, 1) := by decide +kernel
theorem dX9_seed_20 : decode cX9_seed 20 = .ok (.putfield 306, 3) := by decide +kernel
theorem dX9_seed_23 : decode cX9_seed 23 = .ok (.iload_n 2, 1) := by decide +kernel
theorem dX9_seed_24 : decode cX9_seed 24 = .ok (.ireturn, 1) := by decide +kernel
theorem dX9_keep_0 : decode cX9_keep 0 = .ok (.iload_n 1, 1) := by decide +kernel
theorem dX9_keep_1 : decode cX9_keep 1 = .ok (.ifCond .lt 12, 3) := by decide +kernel
theorem dX9_keep_4 : decode cX9_keep 4 = .ok (.iload_n 1, 1) := by decide +kernel
theorem dX9_keep_5 : decode cX9_keep 5 = .ok (.aload_n 0, 1) := by decide +kernel
theorem dX9_keep_6 : decode cX9_keep 6 = .ok (.getfield 71, 3) := by decide +kernel
theorem dX9_keep_9 : decode cX9_keep 9 = .ok (.arraylength, 1) := by decide +kernel
theorem dX9_keep_10 : decode cX9_keep 10 = .ok (.if_icmp .lt 6, 3) := by decide +kernel
theorem dX9_keep_13 : decode cX9_keep 13 = .ok (.ldc 129, 2) := by decide +kernel
theorem dX9_keep_15 : decode cX9_keep 15 = .ok (.ireturn, 1) := by decide +kernel
theorem dX9_keep_16 : decode cX9_keep 16 = .ok (.aload_n 0, 1) := by decide +kernel
theorem dX9_keep_17 : decode cX9_keep 17 = .ok (.getfield 71, 3) := by decide +kernel
theorem dX9_keep_20 : decode cX9_keep 20 = .ok (.iload_n 1, 1) := by decide +kernel
theorem dX9_keep_21 : decode cX9_keep 21 = .ok (.aaload, 1) := by decide +kernel
theorem dX9_keep_22 : decode cX9_keep 22 = .ok (.astore_n 2, 1) := by decide +kernel
theorem dX9_keep_23 : decode cX9_keep 23 = .ok (.aload_n 0, 1) := by decide +kernel
theorem dX9_keep_24 : decode cX9_keep 24 = .ok (.getfield 26, 3) := by decide +kernel
theorem dX9_keep_27 : decode cX9_keep 27 = .ok (.getfield 159, 3) := by decide +kernel
theorem dX9_keep_30 : decode cX9_keep 30 = .ok (.aload_n 2, 1) := by decide +kernel
theorem dX9_keep_31 : decode cX9_keep 31 = .ok (.getfield 309, 3) := by decide +kernel
theorem dX9_keep_34 : decode cX9_keep 34 = .ok (.invokestatic 310, 3) := by decide +kernel
theorem dX9_keep_37 : decode cX9_keep 37 = .ok (.aload_n 0, 1) := by decide +kernel
theorem dX9_keep_38 : decode cX9_keep 38 = .ok (.getfield 26, 3) := by decide +kernel
theorem dX9_keep_41 : decode cX9_keep 41 = .ok (.getfield 156, 3) := by decide +kernel
theorem dX9_keep_44 : decode cX9_keep 44 = .ok (.aload_n 2, 1) := by decide +kernel
theorem dX9_keep_45 : decode cX9_keep 45 = .ok (.getfield 314, 3) := by decide +kernel
theorem dX9_keep_48 : decode cX9_keep 48 = .ok (.invokestatic 310, 3) := by decide +kernel
theorem dX9_keep_51 : decode cX9_keep 51 = .ok (.aload_n 2, 1) := by decide +kernel
theorem dX9_keep_52 : decode cX9_keep 52 = .ok (.aload_n 0, 1) := by decide +kernel
theorem dX9_keep_53 : decode cX9_keep 53 = .ok (.getfield 116, 3) := by decide +kernel
theorem dX9_keep_56 : decode cX9_keep 56 = .ok (.putfield 315, 3) := by decide +kernel
theorem dX9_keep_59 : decode cX9_keep 59 = .ok (.aload_n 2, 1) := by decide +kernel
theorem dX9_keep_60 : decode cX9_keep 60 = .ok (.aload_n 0, 1) := by decide +kernel
theorem dX9_keep_61 : decode cX9_keep 61 = .ok (.getfield 58, 3) := by decide +kernel
theorem dX9_keep_64 : decode cX9_keep 64 = .ok (.getfield 306, 3) := by decide +kernel
theorem dX9_keep_67 : decode cX9_keep 67 = .ok (.putfield 316, 3) := by decide +kernel
theorem dX9_keep_70 : decode cX9_keep 70 = .ok (.aload_n 2, 1) := by decide +kernel
theorem dX9_keep_71 : decode cX9_keep 71 = .ok (.iconst 1, 1) := by decide +kernel
theorem dX9_keep_72 : decode cX9_keep 72 = .ok (.putfield 100, 3) := by decide +kernel
theorem dX9_keep_75 : decode cX9_keep 75 = .ok (.iconst 1, 1) := by decide +kernel
theorem dX9_keep_76 : decode cX9_keep 76 = .ok (.ireturn, 1) := by decide +kernel
theorem dX9_goBack_0 : decode cX9_goBack 0 = .ok (.iload_n 1, 1) := by decide +kernel
theorem dX9_goBack_1 : decode cX9_goBack 1 = .ok (.ifCond .lt 12, 3) := by decide +kernel
theorem dX9_goBack_4 : decode cX9_goBack 4 = .ok (.iload_n 1, 1) := by decide +kernel
theorem dX9_goBack_5 : decode cX9_goBack 5 = .ok (.aload_n 0, 1) := by decide +kernel
theorem dX9_goBack_6 : decode cX9_goBack 6 = .ok (.getfield 71, 3) := by decide +kernel
theorem dX9_goBack_9 : decode cX9_goBack 9 = .ok (.arraylength, 1) := by decide +kernel
theorem dX9_goBack_10 : decode cX9_goBack 10 = .ok (.if_icmp .lt 6, 3) := by decide +kernel
theorem dX9_goBack_13 : decode cX9_goBack 13 = .ok (.ldc 129, 2) := by decide +kernel
theorem dX9_goBack_15 : decode cX9_goBack 15 = .ok (.ireturn, 1) := by decide +kernel
theorem dX9_goBack_16 : decode cX9_goBack 16 = .ok (.aload_n 0, 1) := by decide +kernel
theorem dX9_goBack_17 : decode cX9_goBack 17 = .ok (.getfield 71, 3) := by decide +kernel
theorem dX9_goBack_20 : decode cX9_goBack 20 = .ok (.iload_n 1, 1) := by decide +kernel
theorem dX9_goBack_21 : decode cX9_goBack 21 = .ok (.aaload, 1) := by decide +kernel
theorem dX9_goBack_22 : decode cX9_goBack 22 = .ok (.astore_n 2, 1) := by decide +kernel
theorem dX9_goBack_23 : decode cX9_goBack 23 = .ok (.aload_n 2, 1) := by decide +kernel
theorem dX9_goBack_24 : decode cX9_goBack 24 = .ok (.getfield 100, 3) := by decide +kernel
theorem dX9_goBack_27 : decode cX9_goBack 27 = .ok (.ifCond .ne 7, 3) := by decide +kernel
theorem dX9_goBack_30 : decode cX9_goBack 30 = .ok (.ldc_w 298, 3) := by decide +kernel
theorem dX9_goBack_33 : decode cX9_goBack 33 = .ok (.ireturn, 1) := by decide +kernel
theorem dX9_goBack_34 : decode cX9_goBack 34 = .ok (.aload_n 2, 1) := by decide +kernel
theorem dX9_goBack_35 : decode cX9_goBack 35 = .ok (.getfield 309, 3) := by decide +kernel
theorem dX9_goBack_38 : decode cX9_goBack 38 = .ok (.aload_n 0, 1) := by decide +kernel
theorem dX9_goBack_39 : decode cX9_goBack 39 = .ok (.getfield 26, 3) := by decide +kernel
theorem dX9_goBack_42 : decode cX9_goBack 42 = .ok (.getfield 159, 3) := by decide +kernel
theorem dX9_goBack_45 : decode cX9_goBack 45 = .ok (.invokestatic 310, 3) := by decide +kernel
theorem dX9_goBack_48 : decode cX9_goBack 48 = .ok (.aload_n 2, 1) := by decide +kernel
theorem dX9_goBack_49 : decode cX9_goBack 49 = .ok (.getfield 314, 3) := by decide +kernel
theorem dX9_goBack_52 : decode cX9_goBack 52 = .ok (.aload_n 0, 1) := by decide +kernel
theorem dX9_goBack_53 : decode cX9_goBack 53 = .ok (.getfield 26, 3) := by decide +kernel
theorem dX9_goBack_56 : decode cX9_goBack 56 = .ok (.getfield 156, 3) := by decide +kernel
theorem dX9_goBack_59 : decode cX9_goBack 59 = .ok (.invokestatic 310, 3) := by decide +kernel
theorem dX9_goBack_62 : decode cX9_goBack 62 = .ok (.aload_n 0, 1) := by decide +kernel
theorem dX9_goBack_63 : decode cX9_goBack 63 = .ok (.aload_n 2, 1) := by decide +kernel
theorem dX9_goBack_64 : decode cX9_goBack 64 = .ok (.getfield 315, 3) := by decide +kernel
theorem dX9_goBack_67 : decode cX9_goBack 67 = .ok (.putfield 116, 3) := by decide +kernel
theorem dX9_goBack_70 : decode cX9_goBack 70 = .ok (.aload_n 0, 1) := by decide +kernel
theorem dX9_goBack_71 : decode cX9_goBack 71 = .ok (.getfield 58, 3) := by decide +kernel
theorem dX9_goBack_74 : decode cX9_goBack 74 = .ok (.aload_n 2, 1) := by decide +kernel
theorem dX9_goBack_75 : decode cX9_goBack 75 = .ok (.getfield 316, 3) := by decide +kernel
theorem dX9_goBack_78 : decode cX9_goBack 78 = .ok (.putfield 306, 3) := by decide +kernel
theorem dX9_goBack_81 : decode cX9_goBack 81 = .ok (.iconst 1, 1) := by decide +kernel
theorem dX9_goBack_82 : decode cX9_goBack 82 = .ok (.ireturn, 1) := by decide +kernel
theorem dX9_canAsk_0 : decode cX9_canAsk 0 = .ok (.aload_n 0, 1) := by decide +kernel
theorem dX9_canAsk_1 : decode cX9_canAsk 1 = .ok (.getfield 26, 3) := by decide +kernel
theorem dX9_canAsk_4 : decode cX9_canAsk 4 = .ok (.iload_n 1, 1) := by decide +kernel
theorem dX9_canAsk_5 : decode cX9_canAsk 5 = .ok (.invokevirtual 144, 3) := by decide +kernel
theorem dX9_canAsk_8 : decode cX9_canAsk 8 = .ok (.ifCond .eq 29, 3) := by decide +kernel
theorem dX9_canAsk_11 : decode cX9_canAsk 11 = .ok (.aload_n 0, 1) := by decide +kernel
theorem dX9_canAsk_12 : decode cX9_canAsk 12 = .ok (.getfield 26, 3) := by decide +kernel
theorem dX9_canAsk_15 : decode cX9_canAsk 15 = .ok (.iload_n 2, 1) := by decide +kernel
theorem dX9_canAsk_16 : decode cX9_canAsk 16 = .ok (.invokevirtual 162, 3) := by decide +kernel
theorem dX9_canAsk_19 : decode cX9_canAsk 19 = .ok (.ifCond .eq 18, 3) := by decide +kernel
theorem dX9_canAsk_22 : decode cX9_canAsk 22 = .ok (.aload_n 0, 1) := by decide +kernel
theorem dX9_canAsk_23 : decode cX9_canAsk 23 = .ok (.getfield 26, 3) := by decide +kernel
theorem dX9_canAsk_26 : decode cX9_canAsk 26 = .ok (.iload_n 3, 1) := by decide +kernel
theorem dX9_canAsk_27 : decode cX9_canAsk 27 = .ok (.invokevirtual 162, 3) := by decide +kernel
theorem dX9_canAsk_30 : decode cX9_canAsk 30 = .ok (.ifCond .eq 7, 3) := by decide +kernel
theorem dX9_canAsk_33 : decode cX9_canAsk 33 = .ok (.iconst 1, 1) := by decide +kernel
theorem dX9_canAsk_34 : decode cX9_canAsk 34 = .ok (.goto 4, 3) := by decide +kernel
theorem dX9_canAsk_37 : decode cX9_canAsk 37 = .ok (.iconst 0, 1) := by decide +kernel
theorem dX9_canAsk_38 : decode cX9_canAsk 38 = .ok (.ireturn, 1) := by decide +kernel
theorem dX9_seekFor_0 : decode cX9_seekFor 0 = .ok (.aload_n 0, 1) := by decide +kernel
theorem dX9_seekFor_1 : decode cX9_seekFor 1 = .ok (.getfield 33, 3) := by decide +kernel
theorem dX9_seekFor_4 : decode cX9_seekFor 4 = .ok (.aload_n 0, 1) := by decide +kernel
theorem dX9_seekFor_5 : decode cX9_seekFor 5 = .ok (.getfield 26, 3) := by decide +kernel
theorem dX9_seekFor_8 : decode cX9_seekFor 8 = .ok (.aload_n 0, 1) := by decide +kernel
theorem dX9_seekFor_9 : decode cX9_seekFor 9 = .ok (.getfield 26, 3) := by decide +kernel
theorem dX9_seekFor_12 : decode cX9_seekFor 12 = .ok (.getfield 159, 3) := by decide +kernel
theorem dX9_seekFor_15 : decode cX9_seekFor 15 = .ok (.iload_n 1, 1) := by decide +kernel
theorem dX9_seekFor_16 : decode cX9_seekFor 16 = .ok (.invokestatic 134, 3) := by decide +kernel
theorem dX9_seekFor_19 : decode cX9_seekFor 19 = .ok (.iload_n 2, 1) := by decide +kernel
theorem dX9_seekFor_20 : decode cX9_seekFor 20 = .ok (.iload_n 3, 1) := by decide +kernel
theorem dX9_seekFor_21 : decode cX9_seekFor 21 = .ok (.invokevirtual 318, 3) := by decide +kernel
theorem dX9_seekFor_24 : decode cX9_seekFor 24 = .ok (.return_, 1) := by decide +kernel
theorem dX9_farBetween_0 : decode cX9_farBetween 0 = .ok (.aload_n 0, 1) := by decide +kernel
theorem dX9_farBetween_1 : decode cX9_farBetween 1 = .ok (.getfield 33, 3) := by decide +kernel
theorem dX9_farBetween_4 : decode cX9_farBetween 4 = .ok (.aload_n 0, 1) := by decide +kernel
theorem dX9_farBetween_5 : decode cX9_farBetween 5 = .ok (.getfield 26, 3) := by decide +kernel
theorem dX9_farBetween_8 : decode cX9_farBetween 8 = .ok (.iconst 1, 1) := by decide +kernel
theorem dX9_farBetween_9 : decode cX9_farBetween 9 = .ok (.aload_n 0, 1) := by decide +kernel
theorem dX9_farBetween_10 : decode cX9_farBetween 10 = .ok (.getfield 26, 3) := by decide +kernel
theorem dX9_farBetween_13 : decode cX9_farBetween 13 = .ok (.getfield 110, 3) := by decide +kernel
theorem dX9_farBetween_16 : decode cX9_farBetween 16 = .ok (.ishl, 1) := by decide +kernel
theorem dX9_farBetween_17 : decode cX9_farBetween 17 = .ok (.iconst 1, 1) := by decide +kernel
theorem dX9_farBetween_18 : decode cX9_farBetween 18 = .ok (.isub, 1) := by decide +kernel
theorem dX9_farBetween_19 : decode cX9_farBetween 19 = .ok (.iload_n 1, 1) := by decide +kernel
theorem dX9_farBetween_20 : decode cX9_farBetween 20 = .ok (.iload_n 2, 1) := by decide +kernel
theorem dX9_farBetween_21 : decode cX9_farBetween 21 = .ok (.invokevirtual 318, 3) := by decide +kernel
theorem dX9_farBetween_24 : decode cX9_farBetween 24 = .ok (.aload_n 0, 1) := by decide +kernel
theorem dX9_farBetween_25 : decode cX9_farBetween 25 = .ok (.getfield 33, 3) := by decide +kernel
theorem dX9_farBetween_28 : decode cX9_farBetween 28 = .ok (.getfield 181, 3) := by decide +kernel
theorem dX9_farBetween_31 : decode cX9_farBetween 31 = .ok (.iconst (-1), 1) := by decide +kernel
theorem dX9_farBetween_32 : decode cX9_farBetween 32 = .ok (.if_icmp .ne 7, 3) := by decide +kernel
theorem dX9_farBetween_35 : decode cX9_farBetween 35 = .ok (.iconst (-1), 1) := by decide +kernel
theorem dX9_farBetween_36 : decode cX9_farBetween 36 = .ok (.goto 17, 3) := by decide +kernel
theorem dX9_farBetween_39 : decode cX9_farBetween 39 = .ok (.aload_n 0, 1) := by decide +kernel
theorem dX9_farBetween_40 : decode cX9_farBetween 40 = .ok (.getfield 33, 3) := by decide +kernel
theorem dX9_farBetween_43 : decode cX9_farBetween 43 = .ok (.aload_n 0, 1) := by decide +kernel
theorem dX9_farBetween_44 : decode cX9_farBetween 44 = .ok (.getfield 33, 3) := by decide +kernel
theorem dX9_farBetween_47 : decode cX9_farBetween 47 = .ok (.getfield 181, 3) := by decide +kernel
theorem dX9_farBetween_50 : decode cX9_farBetween 50 = .ok (.invokevirtual 184, 3) := by decide +kernel
theorem dX9_farBetween_53 : decode cX9_farBetween 53 = .ok (.ireturn, 1) := by decide +kernel
theorem dX9_guidesTo_0 : decode cX9_guidesTo 0 = .ok (.aload_n 0, 1) := by decide +kernel
theorem dX9_guidesTo_1 : decode cX9_guidesTo 1 = .ok (.getfield 39, 3) := by decide +kernel
theorem dX9_guidesTo_4 : decode cX9_guidesTo 4 = .ok (.iload_n 1, 1) := by decide +kernel
theorem dX9_guidesTo_5 : decode cX9_guidesTo 5 = .ok (.ifCond .lt 16, 3) := by decide +kernel
theorem dX9_guidesTo_8 : decode cX9_guidesTo 8 = .ok (.iload_n 1, 1) := by decide +kernel
theorem dX9_guidesTo_9 : decode cX9_guidesTo 9 = .ok (.aload_n 0, 1) := by decide +kernel
theorem dX9_guidesTo_10 : decode cX9_guidesTo 10 = .ok (.getfield 39, 3) := by decide +kernel
theorem dX9_guidesTo_13 : decode cX9_guidesTo 13 = .ok (.arraylength, 1) := by decide +kernel
theorem dX9_guidesTo_14 : decode cX9_guidesTo 14 = .ok (.if_icmp .ge 7, 3) := by decide +kernel
theorem dX9_guidesTo_17 : decode cX9_guidesTo 17 = .ok (.iload_n 1, 1) := by decide +kernel
theorem dX9_guidesTo_18 : decode cX9_guidesTo 18 = .ok (.goto 4, 3) := by decide +kernel
theorem dX9_guidesTo_21 : decode cX9_guidesTo 21 = .ok (.iconst 0, 1) := by decide +kernel
theorem dX9_guidesTo_22 : decode cX9_guidesTo 22 = .ok (.aaload, 1) := by decide +kernel
theorem dX9_guidesTo_23 : decode cX9_guidesTo 23 = .ok (.areturn, 1) := by decide +kernel
theorem dX9_gathered_0 : decode cX9_gathered 0 = .ok (.aload_n 0, 1) := by decide +kernel
theorem dX9_gathered_1 : decode cX9_gathered 1 = .ok (.iload_n 1, 1) := by decide +kernel
theorem dX9_gathered_2 : decode cX9_gathered 2 = .ok (.invokevirtual 302, 3) := by decide +kernel
theorem dX9_gathered_5 : decode cX9_gathered 5 = .ok (.astore_n 3, 1) := by decide +kernel
theorem dX9_gathered_6 : decode cX9_gathered 6 = .ok (.aload_n 3, 1) := by decide +kernel
theorem dX9_gathered_7 : decode cX9_gathered 7 = .ok (.iload_n 1, 1) := by decide +kernel
theorem dX9_gathered_8 : decode cX9_gathered 8 = .ok (.iload_n 2, 1) := by decide +kernel
theorem dX9_gathered_9 : decode cX9_gathered 9 = .ok (.aload_n 0, 1) := by decide +kernel
theorem dX9_gathered_10 : decode cX9_gathered 10 = .ok (.getfield 116, 3) := by decide +kernel
theorem dX9_gathered_13 : decode cX9_gathered 13 = .ok (.invokevirtual 322, 3) := by decide +kernel
theorem dX9_gathered_16 : decode cX9_gathered 16 = .ok (.aload_n 3, 1) := by decide +kernel
theorem dX9_gathered_17 : decode cX9_gathered 17 = .ok (.areturn, 1) := by decide +kernel
theorem dX9_minutesIfLedTo_0 : decode cX9_minutesIfLedTo 0 = .ok (.aload_n 0, 1) := by decide +kernel
theorem dX9_minutesIfLedTo_1 : decode cX9_minutesIfLedTo 1 = .ok (.iload_n 2, 1) := by decide +kernel
theorem dX9_minutesIfLedTo_2 : decode cX9_minutesIfLedTo 2 = .ok (.iload_n 3, 1) := by decide +kernel
theorem dX9_minutesIfLedTo_3 : decode cX9_minutesIfLedTo 3 = .ok (.iload 4, 2) := by decide +kernel
theorem dX9_minutesIfLedTo_5 : decode cX9_minutesIfLedTo 5 = .ok (.invokevirtual 177, 3) := by decide +kernel
theorem dX9_minutesIfLedTo_8 : decode cX9_minutesIfLedTo 8 = .ok (.aload_n 0, 1) := by decide +kernel
theorem dX9_minutesIfLedTo_9 : decode cX9_minutesIfLedTo 9 = .ok (.getfield 33, 3) := by decide +kernel
theorem dX9_minutesIfLedTo_12 : decode cX9_minutesIfLedTo 12 = .ok (.aload_n 0, 1) := by decide +kernel
theorem dX9_minutesIfLedTo_13 : decode cX9_minutesIfLedTo 13 = .ok (.getfield 116, 3) := by decide +kernel
theorem dX9_minutesIfLedTo_16 : decode cX9_minutesIfLedTo 16 = .ok (.aload_n 0, 1) := by decide +kernel
theorem dX9_minutesIfLedTo_17 : decode cX9_minutesIfLedTo 17 = .ok (.getfield 26, 3) := by decide +kernel
theorem dX9_minutesIfLedTo_20 : decode cX9_minutesIfLedTo 20 = .ok (.getfield 150, 3) := by decide +kernel
theorem dX9_minutesIfLedTo_23 : decode cX9_minutesIfLedTo 23 = .ok (.iload_n 2, 1) := by decide +kernel
theorem dX9_minutesIfLedTo_24 : decode cX9_minutesIfLedTo 24 = .ok (.invokestatic 134, 3) := by decide +kernel
theorem dX9_minutesIfLedTo_27 : decode cX9_minutesIfLedTo 27 = .ok (.aload_n 0, 1) := by decide +kernel
theorem dX9_minutesIfLedTo_28 : decode cX9_minutesIfLedTo 28 = .ok (.getfield 26, 3) := by decide +kernel
theorem dX9_minutesIfLedTo_31 : decode cX9_minutesIfLedTo 31 = .ok (.getfield 153, 3) := by decide +kernel
theorem dX9_minutesIfLedTo_34 : decode cX9_minutesIfLedTo 34 = .ok (.iload_n 2, 1) := by decide +kernel
theorem dX9_minutesIfLedTo_35 : decode cX9_minutesIfLedTo 35 = .ok (.invokestatic 134, 3) := by decide +kernel
theorem dX9_minutesIfLedTo_38 : decode cX9_minutesIfLedTo 38 = .ok (.invokevirtual 200, 3) := by decide +kernel
theorem dX9_minutesIfLedTo_41 : decode cX9_minutesIfLedTo 41 = .ok (.istore 5, 2) := by decide +kernel
theorem dX9_minutesIfLedTo_43 : decode cX9_minutesIfLedTo 43 = .ok (.iload 5, 2) := by decide +kernel
theorem dX9_minutesIfLedTo_45 : decode cX9_minutesIfLedTo 45 = .ok (.ifCond .le 28, 3) := by decide +kernel
theorem dX9_minutesIfLedTo_48 : decode cX9_minutesIfLedTo 48 = .ok (.aload_n 0, 1) := by decide +kernel
theorem dX9_minutesIfLedTo_49 : decode cX9_minutesIfLedTo 49 = .ok (.getfield 33, 3) := by decide +kernel
theorem dX9_minutesIfLedTo_52 : decode cX9_minutesIfLedTo 52 = .ok (.iload 5, 2) := by decide +kernel
theorem dX9_minutesIfLedTo_54 : decode cX9_minutesIfLedTo 54 = .ok (.invokevirtual 188, 3) := by decide +kernel
theorem dX9_minutesIfLedTo_57 : decode cX9_minutesIfLedTo 57 = .ok (.iload_n 1, 1) := by decide +kernel
theorem dX9_minutesIfLedTo_58 : decode cX9_minutesIfLedTo 58 = .ok (.if_icmp .ne 15, 3) := by decide +kernel
theorem dX9_minutesIfLedTo_61 : decode cX9_minutesIfLedTo 61 = .ok (.aload_n 0, 1) := by decide +kernel
theorem dX9_minutesIfLedTo_62 : decode cX9_minutesIfLedTo 62 = .ok (.getfield 33, 3) := by decide +kernel
theorem dX9_minutesIfLedTo_65 : decode cX9_minutesIfLedTo 65 = .ok (.iload 5, 2) := by decide +kernel
theorem dX9_minutesIfLedTo_67 : decode cX9_minutesIfLedTo 67 = .ok (.invokevirtual 184, 3) := by decide +kernel
theorem dX9_minutesIfLedTo_70 : decode cX9_minutesIfLedTo 70 = .ok (.goto 4, 3) := by decide +kernel
theorem dX9_minutesIfLedTo_73 : decode cX9_minutesIfLedTo 73 = .ok (.iconst (-1), 1) := by decide +kernel
theorem dX9_minutesIfLedTo_74 : decode cX9_minutesIfLedTo 74 = .ok (.ireturn, 1) := by decide +kernel
theorem dX9_askedFor_0 : decode cX9_askedFor 0 = .ok (.iconst 0, 1) := by decide +kernel
theorem dX9_askedFor_1 : decode cX9_askedFor 1 = .ok (.istore_n 3, 1) := by decide +kernel
theorem dX9_askedFor_2 : decode cX9_askedFor 2 = .ok (.aload_n 0, 1) := by decide +kernel
theorem dX9_askedFor_3 : decode cX9_askedFor 3 = .ok (.getfield 26, 3) := by decide +kernel
theorem dX9_askedFor_6 : decode cX9_askedFor 6 = .ok (.getfield 147, 3) := by decide +kernel
theorem dX9_askedFor_9 : decode cX9_askedFor 9 = .ok (.iload_n 1, 1) := by decide +kernel
theorem dX9_askedFor_10 : decode cX9_askedFor 10 = .ok (.invokestatic 134, 3) := by decide +kernel
theorem dX9_askedFor_13 : decode cX9_askedFor 13 = .ok (.istore 4, 2) := by decide +kernel
theorem dX9_askedFor_15 : decode cX9_askedFor 15 = .ok (.iconst 0, 1) := by decide +kernel
theorem dX9_askedFor_16 : decode cX9_askedFor 16 = .ok (.istore 5, 2) := by decide +kernel
theorem dX9_askedFor_18 : decode cX9_askedFor 18 = .ok (.iload 5, 2) := by decide +kernel
theorem dX9_askedFor_20 : decode cX9_askedFor 20 = .ok (.aload_n 0, 1) := by decide +kernel
theorem dX9_askedFor_21 : decode cX9_askedFor 21 = .ok (.getfield 26, 3) := by decide +kernel
theorem dX9_askedFor_24 : decode cX9_askedFor 24 = .ok (.getfield 104, 3) := by decide +kernel
theorem dX9_askedFor_27 : decode cX9_askedFor 27 = .ok (.if_icmp .ge 57, 3) := by decide +kernel
theorem dX9_askedFor_30 : decode cX9_askedFor 30 = .ok (.aload_n 0, 1) := by decide +kernel
theorem dX9_askedFor_31 : decode cX9_askedFor 31 = .ok (.iload_n 1, 1) := by decide +kernel
theorem dX9_askedFor_32 : decode cX9_askedFor 32 = .ok (.iload 4, 2) := by decide +kernel
theorem dX9_askedFor_34 : decode cX9_askedFor 34 = .ok (.iload 5, 2) := by decide +kernel
theorem dX9_askedFor_36 : decode cX9_askedFor 36 = .ok (.invokevirtual 177, 3) := by decide +kernel
theorem dX9_askedFor_39 : decode cX9_askedFor 39 = .ok (.aload_n 0, 1) := by decide +kernel
theorem dX9_askedFor_40 : decode cX9_askedFor 40 = .ok (.getfield 33, 3) := by decide +kernel
theorem dX9_askedFor_43 : decode cX9_askedFor 43 = .ok (.getfield 181, 3) := by decide +kernel
theorem dX9_askedFor_46 : decode cX9_askedFor 46 = .ok (.ifCond .le 32, 3) := by decide +kernel
theorem dX9_askedFor_49 : decode cX9_askedFor 49 = .ok (.aload_n 0, 1) := by decide +kernel
theorem dX9_askedFor_50 : decode cX9_askedFor 50 = .ok (.getfield 33, 3) := by decide +kernel
theorem dX9_askedFor_53 : decode cX9_askedFor 53 = .ok (.aload_n 0, 1) := by decide +kernel
theorem dX9_askedFor_54 : decode cX9_askedFor 54 = .ok (.getfield 116, 3) := by decide +kernel
theorem dX9_askedFor_57 : decode cX9_askedFor 57 = .ok (.aload_n 0, 1) := by decide +kernel
theorem dX9_askedFor_58 : decode cX9_askedFor 58 = .ok (.getfield 33, 3) := by decide +kernel
theorem dX9_askedFor_61 : decode cX9_askedFor 61 = .ok (.getfield 181, 3) := by decide +kernel
theorem dX9_askedFor_64 : decode cX9_askedFor 64 = .ok (.invokevirtual 197, 3) := by decide +kernel
theorem dX9_askedFor_67 : decode cX9_askedFor 67 = .ok (.iload_n 2, 1) := by decide +kernel
theorem dX9_askedFor_68 : decode cX9_askedFor 68 = .ok (.if_icmp .ne 10, 3) := by decide +kernel
theorem dX9_askedFor_71 : decode cX9_askedFor 71 = .ok (.iload_n 3, 1) := by decide +kernel
theorem dX9_askedFor_72 : decode cX9_askedFor 72 = .ok (.iconst 1, 1) := by decide +kernel
theorem dX9_askedFor_73 : decode cX9_askedFor 73 = .ok (.iload 5, 2) := by decide +kernel
theorem dX9_askedFor_75 : decode cX9_askedFor 75 = .ok (.ishl, 1) := by decide +kernel
theorem dX9_askedFor_76 : decode cX9_askedFor 76 = .ok (.ior, 1) := by decide +kernel
theorem dX9_askedFor_77 : decode cX9_askedFor 77 = .ok (.istore_n 3, 1) := by decide +kernel
theorem dX9_askedFor_78 : decode cX9_askedFor 78 = .ok (.iinc 5 1, 3) := by decide +kernel
theorem dX9_askedFor_81 : decode cX9_askedFor 81 = .ok (.goto (-63), 3) := by decide +kernel
theorem dX9_askedFor_84 : decode cX9_askedFor 84 = .ok (.iload_n 3, 1) := by decide +kernel
theorem dX9_askedFor_85 : decode cX9_askedFor 85 = .ok (.ireturn, 1) := by decide +kernel
theorem dX9_at_0 : decode cX9_at 0 = .ok (.iload_n 1, 1) := by decide +kernel
theorem dX9_at_1 : decode cX9_at 1 = .ok (.ifCond .lt 15, 3) := by decide +kernel
theorem dX9_at_4 : decode cX9_at 4 = .ok (.iload_n 1, 1) := by decide +kernel
theorem dX9_at_5 : decode cX9_at 5 = .ok (.aload_n 0, 1) := by decide +kernel
theorem dX9_at_6 : decode cX9_at 6 = .ok (.arraylength, 1) := by decide +kernel
theorem dX9_at_7 : decode cX9_at 7 = .ok (.if_icmp .ge 9, 3) := by decide +kernel
theorem dX9_at_10 : decode cX9_at 10 = .ok (.aload_n 0, 1) := by decide +kernel
theorem dX9_at_11 : decode cX9_at 11 = .ok (.iload_n 1, 1) := by decide +kernel
theorem dX9_at_12 : decode cX9_at 12 = .ok (.iaload, 1) := by decide +kernel
theorem dX9_at_13 : decode cX9_at 13 = .ok (.goto 4, 3) := by decide +kernel
theorem dX9_at_16 : decode cX9_at 16 = .ok (.iconst (-1), 1) := by decide +kernel
theorem dX9_at_17 : decode cX9_at 17 = .ok (.ireturn, 1) := by decide +kernel
theorem dX9_put_0 : decode cX9_put 0 = .ok (.iload_n 1, 1) := by decide +kernel
theorem dX9_put_1 : decode cX9_put 1 = .ok (.ifCond .lt 13, 3) := by decide +kernel
theorem dX9_put_4 : decode cX9_put 4 = .ok (.iload_n 1, 1) := by decide +kernel
theorem dX9_put_5 : decode cX9_put 5 = .ok (.aload_n 0, 1) := by decide +kernel
theorem dX9_put_6 : decode cX9_put 6 = .ok (.arraylength, 1) := by decide +kernel
theorem dX9_put_7 : decode cX9_put 7 = .ok (.if_icmp .ge 7, 3) := by decide +kernel
theorem dX9_put_10 : decode cX9_put 10 = .ok (.aload_n 0, 1) := by decide +kernel
theorem dX9_put_11 : decode cX9_put 11 = .ok (.iload_n 1, 1) := by decide +kernel
theorem dX9_put_12 : decode cX9_put 12 = .ok (.iload_n 2, 1) := by decide +kernel
theorem dX9_put_13 : decode cX9_put 13 = .ok (.iastore, 1) := by decide +kernel
theorem dX9_put_14 : decode cX9_put 14 = .ok (.return_, 1) := by decide +kernel
theorem dX9_copy_0 : decode cX9_copy 0 = .ok (.aload_n 0, 1) := by decide +kernel
theorem dX9_copy_1 : decode cX9_copy 1 = .ok (.iconst 0, 1) := by decide +kernel
theorem dX9_copy_2 : decode cX9_copy 2 = .ok (.aload_n 1, 1) := by decide +kernel
theorem dX9_copy_3 : decode cX9_copy 3 = .ok (.iconst 0, 1) := by decide +kernel
theorem dX9_copy_4 : decode cX9_copy 4 = .ok (.aload_n 0, 1) := by decide +kernel
theorem dX9_copy_5 : decode cX9_copy 5 = .ok (.arraylength, 1) := by decide +kernel
theorem dX9_copy_6 : decode cX9_copy 6 = .ok (.aload_n 1, 1) := by decide +kernel
theorem dX9_copy_7 : decode cX9_copy 7 = .ok (.arraylength, 1) := by decide +kernel
theorem dX9_copy_8 : decode cX9_copy 8 = .ok (.invokestatic 326, 3) := by decide +kernel
theorem dX9_copy_11 : decode cX9_copy 11 = .ok (.invokestatic 329, 3) := by decide +kernel
theorem dX9_copy_14 : decode cX9_copy 14 = .ok (.return_, 1) := by decide +kernel
