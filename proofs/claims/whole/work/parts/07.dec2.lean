theorem dX6_init_0 : decode cX6_init 0 = .ok (.aload_n 0, 1) := by decide +kernel
theorem dX6_init_1 : decode cX6_init 1 = .ok (.invokespecial 3, 3) := by decide +kernel
theorem dX6_init_4 : decode cX6_init 4 = .ok (.aload_n 0, 1) := by decide +kernel
theorem dX6_init_5 : decode cX6_init 5 = .ok (.new 9, 3) := by decide +kernel
theorem dX6_init_8 : decode cX6_init 8 = .ok (.dup, 1) := by decide +kernel
theorem dX6_init_9 : decode cX6_init 9 = .ok (.invokespecial 11, 3) := by decide +kernel
theorem dX6_init_12 : decode cX6_init 12 = .ok (.putfield 12, 3) := by decide +kernel
theorem dX6_init_15 : decode cX6_init 15 = .ok (.aload_n 0, 1) := by decide +kernel
theorem dX6_init_16 : decode cX6_init 16 = .ok (.new 9, 3) := by decide +kernel
theorem dX6_init_19 : decode cX6_init 19 = .ok (.dup, 1) := by decide +kernel
theorem dX6_init_20 : decode cX6_init 20 = .ok (.invokespecial 11, 3) := by decide +kernel
theorem dX6_init_23 : decode cX6_init 23 = .ok (.putfield 18, 3) := by decide +kernel
theorem dX6_init_26 : decode cX6_init 26 = .ok (.aload_n 0, 1) := by decide +kernel
theorem dX6_init_27 : decode cX6_init 27 = .ok (.iconst 3, 1) := by decide +kernel
theorem dX6_init_28 : decode cX6_init 28 = .ok (.bipush 12, 2) := by decide +kernel
theorem dX6_init_30 : decode cX6_init 30 = .ok (.multianewarray 21 2, 4) := by decide +kernel
theorem dX6_init_34 : decode cX6_init 34 = .ok (.putfield 23, 3) := by decide +kernel
theorem dX6_init_37 : decode cX6_init 37 = .ok (.aload_n 0, 1) := by decide +kernel
theorem dX6_init_38 : decode cX6_init 38 = .ok (.iconst 3, 1) := by decide +kernel
theorem dX6_init_39 : decode cX6_init 39 = .ok (.newarray .int, 2) := by decide +kernel
theorem dX6_init_41 : decode cX6_init 41 = .ok (.dup, 1) := by decide +kernel
theorem dX6_init_42 : decode cX6_init 42 = .ok (.iconst 0, 1) := by decide +kernel
theorem dX6_init_43 : decode cX6_init 43 = .ok (.bipush (-11), 2) := by decide +kernel
theorem dX6_init_45 : decode cX6_init 45 = .ok (.iastore, 1) := by decide +kernel
theorem dX6_init_46 : decode cX6_init 46 = .ok (.dup, 1) := by decide +kernel
theorem dX6_init_47 : decode cX6_init 47 = .ok (.iconst 1, 1) := by decide +kernel
theorem dX6_init_48 : decode cX6_init 48 = .ok (.bipush (-11), 2) := by decide +kernel
theorem dX6_init_50 : decode cX6_init 50 = .ok (.iastore, 1) := by decide +kernel
theorem dX6_init_51 : decode cX6_init 51 = .ok (.dup, 1) := by decide +kernel
theorem dX6_init_52 : decode cX6_init 52 = .ok (.iconst 2, 1) := by decide +kernel
theorem dX6_init_53 : decode cX6_init 53 = .ok (.bipush (-11), 2) := by decide +kernel
theorem dX6_init_55 : decode cX6_init 55 = .ok (.iastore, 1) := by decide +kernel
theorem dX6_init_56 : decode cX6_init 56 = .ok (.putfield 26, 3) := by decide +kernel
theorem dX6_init_59 : decode cX6_init 59 = .ok (.aload_n 0, 1) := by decide +kernel
theorem dX6_init_60 : decode cX6_init 60 = .ok (.new 30, 3) := by decide +kernel
theorem dX6_init_63 : decode cX6_init 63 = .ok (.dup, 1) := by decide +kernel
theorem dX6_init_64 : decode cX6_init 64 = .ok (.invokespecial 32, 3) := by decide +kernel
theorem dX6_init_67 : decode cX6_init 67 = .ok (.putfield 33, 3) := by decide +kernel
theorem dX6_init_70 : decode cX6_init 70 = .ok (.aload_n 0, 1) := by decide +kernel
theorem dX6_init_71 : decode cX6_init 71 = .ok (.new 37, 3) := by decide +kernel
theorem dX6_init_74 : decode cX6_init 74 = .ok (.dup, 1) := by decide +kernel
theorem dX6_init_75 : decode cX6_init 75 = .ok (.invokespecial 39, 3) := by decide +kernel
theorem dX6_init_78 : decode cX6_init 78 = .ok (.putfield 40, 3) := by decide +kernel
theorem dX6_init_81 : decode cX6_init 81 = .ok (.aload_n 0, 1) := by decide +kernel
theorem dX6_init_82 : decode cX6_init 82 = .ok (.new 44, 3) := by decide +kernel
theorem dX6_init_85 : decode cX6_init 85 = .ok (.dup, 1) := by decide +kernel
theorem dX6_init_86 : decode cX6_init 86 = .ok (.invokespecial 46, 3) := by decide +kernel
theorem dX6_init_89 : decode cX6_init 89 = .ok (.putfield 47, 3) := by decide +kernel
theorem dX6_init_92 : decode cX6_init 92 = .ok (.aload_n 0, 1) := by decide +kernel
theorem dX6_init_93 : decode cX6_init 93 = .ok (.new 51, 3) := by decide +kernel
theorem dX6_init_96 : decode cX6_init 96 = .ok (.dup, 1) := by decide +kernel
theorem dX6_init_97 : decode cX6_init 97 = .ok (.invokespecial 53, 3) := by decide +kernel
theorem dX6_init_100 : decode cX6_init 100 = .ok (.putfield 54, 3) := by decide +kernel
theorem dX6_init_103 : decode cX6_init 103 = .ok (.aload_n 0, 1) := by decide +kernel
theorem dX6_init_104 : decode cX6_init 104 = .ok (.new 58, 3) := by decide +kernel
theorem dX6_init_107 : decode cX6_init 107 = .ok (.dup, 1) := by decide +kernel
theorem dX6_init_108 : decode cX6_init 108 = .ok (.invokespecial 60, 3) := by decide +kernel
theorem dX6_init_111 : decode cX6_init 111 = .ok (.putfield 61, 3) := by decide +kernel
theorem dX6_init_114 : decode cX6_init 114 = .ok (.aload_n 0, 1) := by decide +kernel
theorem dX6_init_115 : decode cX6_init 115 = .ok (.new 65, 3) := by decide +kernel
theorem dX6_init_118 : decode cX6_init 118 = .ok (.dup, 1) := by decide +kernel
theorem dX6_init_119 : decode cX6_init 119 = .ok (.invokespecial 67, 3) := by decide +kernel
theorem dX6_init_122 : decode cX6_init 122 = .ok (.putfield 68, 3) := by decide +kernel
theorem dX6_init_125 : decode cX6_init 125 = .ok (.aload_n 0, 1) := by decide +kernel
theorem dX6_init_126 : decode cX6_init 126 = .ok (.new 65, 3) := by decide +kernel
theorem dX6_init_129 : decode cX6_init 129 = .ok (.dup, 1) := by decide +kernel
theorem dX6_init_130 : decode cX6_init 130 = .ok (.invokespecial 67, 3) := by decide +kernel
theorem dX6_init_133 : decode cX6_init 133 = .ok (.putfield 72, 3) := by decide +kernel
theorem dX6_init_136 : decode cX6_init 136 = .ok (.aload_n 0, 1) := by decide +kernel
theorem dX6_init_137 : decode cX6_init 137 = .ok (.new 65, 3) := by decide +kernel
theorem dX6_init_140 : decode cX6_init 140 = .ok (.dup, 1) := by decide +kernel
theorem dX6_init_141 : decode cX6_init 141 = .ok (.invokespecial 67, 3) := by decide +kernel
theorem dX6_init_144 : decode cX6_init 144 = .ok (.putfield 75, 3) := by decide +kernel
theorem dX6_init_147 : decode cX6_init 147 = .ok (.return_, 1) := by decide +kernel
theorem dX6_lamp_0 : decode cX6_lamp 0 = .ok (.iload_n 1, 1) := by decide +kernel
theorem dX6_lamp_1 : decode cX6_lamp 1 = .ok (.ifCond .lt 10, 3) := by decide +kernel
theorem dX6_lamp_4 : decode cX6_lamp 4 = .ok (.iload_n 1, 1) := by decide +kernel
theorem dX6_lamp_5 : decode cX6_lamp 5 = .ok (.sipush 1000, 3) := by decide +kernel
theorem dX6_lamp_8 : decode cX6_lamp 8 = .ok (.if_icmp .le 6, 3) := by decide +kernel
theorem dX6_lamp_11 : decode cX6_lamp 11 = .ok (.bipush (-2), 2) := by decide +kernel
theorem dX6_lamp_13 : decode cX6_lamp 13 = .ok (.ireturn, 1) := by decide +kernel
theorem dX6_lamp_14 : decode cX6_lamp 14 = .ok (.aload_n 0, 1) := by decide +kernel
theorem dX6_lamp_15 : decode cX6_lamp 15 = .ok (.getfield 68, 3) := by decide +kernel
theorem dX6_lamp_18 : decode cX6_lamp 18 = .ok (.iload_n 1, 1) := by decide +kernel
theorem dX6_lamp_19 : decode cX6_lamp 19 = .ok (.i2l, 1) := by decide +kernel
theorem dX6_lamp_20 : decode cX6_lamp 20 = .ok (.iload_n 2, 1) := by decide +kernel
theorem dX6_lamp_21 : decode cX6_lamp 21 = .ok (.i2l, 1) := by decide +kernel
theorem dX6_lamp_22 : decode cX6_lamp 22 = .ok (.iload_n 3, 1) := by decide +kernel
theorem dX6_lamp_23 : decode cX6_lamp 23 = .ok (.i2l, 1) := by decide +kernel
theorem dX6_lamp_24 : decode cX6_lamp 24 = .ok (.iload 4, 2) := by decide +kernel
theorem dX6_lamp_26 : decode cX6_lamp 26 = .ok (.i2l, 1) := by decide +kernel
theorem dX6_lamp_27 : decode cX6_lamp 27 = .ok (.iconst 0, 1) := by decide +kernel
theorem dX6_lamp_28 : decode cX6_lamp 28 = .ok (.invokevirtual 78, 3) := by decide +kernel
theorem dX6_lamp_31 : decode cX6_lamp 31 = .ok (.aload_n 0, 1) := by decide +kernel
theorem dX6_lamp_32 : decode cX6_lamp 32 = .ok (.getfield 68, 3) := by decide +kernel
theorem dX6_lamp_35 : decode cX6_lamp 35 = .ok (.invokevirtual 82, 3) := by decide +kernel
theorem dX6_lamp_38 : decode cX6_lamp 38 = .ok (.ifCond .ne 6, 3) := by decide +kernel
theorem dX6_lamp_41 : decode cX6_lamp 41 = .ok (.bipush (-2), 2) := by decide +kernel
theorem dX6_lamp_43 : decode cX6_lamp 43 = .ok (.ireturn, 1) := by decide +kernel
theorem dX6_lamp_44 : decode cX6_lamp 44 = .ok (.aload_n 0, 1) := by decide +kernel
theorem dX6_lamp_45 : decode cX6_lamp 45 = .ok (.getfield 12, 3) := by decide +kernel
theorem dX6_lamp_48 : decode cX6_lamp 48 = .ok (.getfield 86, 3) := by decide +kernel
theorem dX6_lamp_51 : decode cX6_lamp 51 = .ok (.aload_n 0, 1) := by decide +kernel
theorem dX6_lamp_52 : decode cX6_lamp 52 = .ok (.getfield 68, 3) := by decide +kernel
theorem dX6_lamp_55 : decode cX6_lamp 55 = .ok (.invokevirtual 89, 3) := by decide +kernel
theorem dX6_lamp_58 : decode cX6_lamp 58 = .ok (.iconst 1, 1) := by decide +kernel
theorem dX6_lamp_59 : decode cX6_lamp 59 = .ok (.ireturn, 1) := by decide +kernel
theorem dX6_add_0 : decode cX6_add 0 = .ok (.iload_n 1, 1) := by decide +kernel
theorem dX6_add_1 : decode cX6_add 1 = .ok (.invokestatic 93, 3) := by decide +kernel
theorem dX6_add_4 : decode cX6_add 4 = .ok (.ifCond .ne 5, 3) := by decide +kernel
theorem dX6_add_7 : decode cX6_add 7 = .ok (.iconst (-1), 1) := by decide +kernel
theorem dX6_add_8 : decode cX6_add 8 = .ok (.ireturn, 1) := by decide +kernel
theorem dX6_add_9 : decode cX6_add 9 = .ok (.iload_n 2, 1) := by decide +kernel
theorem dX6_add_10 : decode cX6_add 10 = .ok (.invokestatic 97, 3) := by decide +kernel
theorem dX6_add_13 : decode cX6_add 13 = .ok (.ifCond .eq 10, 3) := by decide +kernel
theorem dX6_add_16 : decode cX6_add 16 = .ok (.iload_n 3, 1) := by decide +kernel
theorem dX6_add_17 : decode cX6_add 17 = .ok (.invokestatic 100, 3) := by decide +kernel
theorem dX6_add_20 : decode cX6_add 20 = .ok (.ifCond .ne 6, 3) := by decide +kernel
theorem dX6_add_23 : decode cX6_add 23 = .ok (.bipush (-2), 2) := by decide +kernel
theorem dX6_add_25 : decode cX6_add 25 = .ok (.ireturn, 1) := by decide +kernel
theorem dX6_add_26 : decode cX6_add 26 = .ok (.aload_n 0, 1) := by decide +kernel
theorem dX6_add_27 : decode cX6_add 27 = .ok (.getfield 12, 3) := by decide +kernel
theorem dX6_add_30 : decode cX6_add 30 = .ok (.iload_n 1, 1) := by decide +kernel
theorem dX6_add_31 : decode cX6_add 31 = .ok (.iload_n 2, 1) := by decide +kernel
theorem dX6_add_32 : decode cX6_add 32 = .ok (.iload_n 3, 1) := by decide +kernel
theorem dX6_add_33 : decode cX6_add 33 = .ok (.invokestatic 103, 3) := by decide +kernel
theorem dX6_add_36 : decode cX6_add 36 = .ok (.invokevirtual 107, 3) := by decide +kernel
theorem dX6_add_39 : decode cX6_add 39 = .ok (.ireturn, 1) := by decide +kernel
theorem dX6_change_0 : decode cX6_change 0 = .ok (.aload_n 0, 1) := by decide +kernel
theorem dX6_change_1 : decode cX6_change 1 = .ok (.getfield 12, 3) := by decide +kernel
theorem dX6_change_4 : decode cX6_change 4 = .ok (.iload_n 1, 1) := by decide +kernel
theorem dX6_change_5 : decode cX6_change 5 = .ok (.invokevirtual 111, 3) := by decide +kernel
theorem dX6_change_8 : decode cX6_change 8 = .ok (.ifCond .eq 12, 3) := by decide +kernel
theorem dX6_change_11 : decode cX6_change 11 = .ok (.iload_n 2, 1) := by decide +kernel
theorem dX6_change_12 : decode cX6_change 12 = .ok (.ifCond .lt 8, 3) := by decide +kernel
theorem dX6_change_15 : decode cX6_change 15 = .ok (.iload_n 2, 1) := by decide +kernel
theorem dX6_change_16 : decode cX6_change 16 = .ok (.iconst 2, 1) := by decide +kernel
theorem dX6_change_17 : decode cX6_change 17 = .ok (.if_icmp .le 5, 3) := by decide +kernel
theorem dX6_change_20 : decode cX6_change 20 = .ok (.iconst (-1), 1) := by decide +kernel
theorem dX6_change_21 : decode cX6_change 21 = .ok (.ireturn, 1) := by decide +kernel
theorem dX6_change_22 : decode cX6_change 22 = .ok (.iload_n 2, 1) := by decide +kernel
theorem dX6_change_23 : decode cX6_change 23 = .ok (.ifCond .ne 8, 3) := by decide +kernel
theorem dX6_change_26 : decode cX6_change 26 = .ok (.bipush 7, 2) := by decide +kernel
theorem dX6_change_28 : decode cX6_change 28 = .ok (.goto 14, 3) := by decide +kernel
theorem dX6_change_31 : decode cX6_change 31 = .ok (.iload_n 2, 1) := by decide +kernel
theorem dX6_change_32 : decode cX6_change 32 = .ok (.iconst 1, 1) := by decide +kernel
theorem dX6_change_33 : decode cX6_change 33 = .ok (.if_icmp .ne 7, 3) := by decide +kernel
theorem dX6_change_36 : decode cX6_change 36 = .ok (.iconst 4, 1) := by decide +kernel
theorem dX6_change_37 : decode cX6_change 37 = .ok (.goto 5, 3) := by decide +kernel
theorem dX6_change_40 : decode cX6_change 40 = .ok (.bipush 17, 2) := by decide +kernel
theorem dX6_change_42 : decode cX6_change 42 = .ok (.istore 4, 2) := by decide +kernel
theorem dX6_change_44 : decode cX6_change 44 = .ok (.iload_n 3, 1) := by decide +kernel
theorem dX6_change_45 : decode cX6_change 45 = .ok (.ifCond .lt 9, 3) := by decide +kernel
theorem dX6_change_48 : decode cX6_change 48 = .ok (.iload_n 3, 1) := by decide +kernel
theorem dX6_change_49 : decode cX6_change 49 = .ok (.iload 4, 2) := by decide +kernel
theorem dX6_change_51 : decode cX6_change 51 = .ok (.if_icmp .lt 6, 3) := by decide +kernel
theorem dX6_change_54 : decode cX6_change 54 = .ok (.bipush (-2), 2) := by decide +kernel
theorem dX6_change_56 : decode cX6_change 56 = .ok (.ireturn, 1) := by decide +kernel
theorem dX6_change_57 : decode cX6_change 57 = .ok (.iload_n 2, 1) := by decide +kernel
theorem dX6_change_58 : decode cX6_change 58 = .ok (.ifCond .ne 12, 3) := by decide +kernel
theorem dX6_change_61 : decode cX6_change 61 = .ok (.iconst 1, 1) := by decide +kernel
theorem dX6_change_62 : decode cX6_change 62 = .ok (.iconst 0, 1) := by decide +kernel
theorem dX6_change_63 : decode cX6_change 63 = .ok (.iconst 0, 1) := by decide +kernel
theorem dX6_change_64 : decode cX6_change 64 = .ok (.invokestatic 103, 3) := by decide +kernel
theorem dX6_change_67 : decode cX6_change 67 = .ok (.goto 23, 3) := by decide +kernel
theorem dX6_change_70 : decode cX6_change 70 = .ok (.iload_n 2, 1) := by decide +kernel
theorem dX6_change_71 : decode cX6_change 71 = .ok (.iconst 1, 1) := by decide +kernel
theorem dX6_change_72 : decode cX6_change 72 = .ok (.if_icmp .ne 12, 3) := by decide +kernel
theorem dX6_change_75 : decode cX6_change 75 = .ok (.iconst 0, 1) := by decide +kernel
theorem dX6_change_76 : decode cX6_change 76 = .ok (.iconst 1, 1) := by decide +kernel
theorem dX6_change_77 : decode cX6_change 77 = .ok (.iconst 0, 1) := by decide +kernel
theorem dX6_change_78 : decode cX6_change 78 = .ok (.invokestatic 103, 3) := by decide +kernel
theorem dX6_change_81 : decode cX6_change 81 = .ok (.goto 9, 3) := by decide +kernel
theorem dX6_change_84 : decode cX6_change 84 = .ok (.iconst 0, 1) := by decide +kernel
theorem dX6_change_85 : decode cX6_change 85 = .ok (.iconst 0, 1) := by decide +kernel
theorem dX6_change_86 : decode cX6_change 86 = .ok (.iconst 1, 1) := by decide +kernel
theorem dX6_change_87 : decode cX6_change 87 = .ok (.invokestatic 103, 3) := by decide +kernel
theorem dX6_change_90 : decode cX6_change 90 = .ok (.istore 5, 2) := by decide +kernel
theorem dX6_change_92 : decode cX6_change 92 = .ok (.aload_n 0, 1) := by decide +kernel
theorem dX6_change_93 : decode cX6_change 93 = .ok (.iload_n 1, 1) := by decide +kernel
theorem dX6_change_94 : decode cX6_change 94 = .ok (.iload_n 2, 1) := by decide +kernel
theorem dX6_change_95 : decode cX6_change 95 = .ok (.invokevirtual 114, 3) := by decide +kernel
theorem dX6_change_98 : decode cX6_change 98 = .ok (.istore 6, 2) := by decide +kernel
theorem dX6_change_100 : decode cX6_change 100 = .ok (.aload_n 0, 1) := by decide +kernel
theorem dX6_change_101 : decode cX6_change 101 = .ok (.getfield 12, 3) := by decide +kernel
theorem dX6_change_104 : decode cX6_change 104 = .ok (.getfield 118, 3) := by decide +kernel
theorem dX6_change_107 : decode cX6_change 107 = .ok (.iload_n 1, 1) := by decide +kernel
theorem dX6_change_108 : decode cX6_change 108 = .ok (.dup2, 1) := by decide +kernel
theorem dX6_change_109 : decode cX6_change 109 = .ok (.iaload, 1) := by decide +kernel
theorem dX6_change_110 : decode cX6_change 110 = .ok (.iload 5, 2) := by decide +kernel
theorem dX6_change_112 : decode cX6_change 112 = .ok (.iload_n 3, 1) := by decide +kernel
theorem dX6_change_113 : decode cX6_change 113 = .ok (.iload 6, 2) := by decide +kernel
theorem dX6_change_115 : decode cX6_change 115 = .ok (.isub, 1) := by decide +kernel
theorem dX6_change_116 : decode cX6_change 116 = .ok (.imul, 1) := by decide +kernel
theorem dX6_change_117 : decode cX6_change 117 = .ok (.iadd, 1) := by decide +kernel
theorem dX6_change_118 : decode cX6_change 118 = .ok (.iastore, 1) := by decide +kernel
theorem dX6_change_119 : decode cX6_change 119 = .ok (.iload 6, 2) := by decide +kernel
theorem dX6_change_121 : decode cX6_change 121 = .ok (.ireturn, 1) := by decide +kernel
theorem dX6_turn_0 : decode cX6_turn 0 = .ok (.aload_n 0, 1) := by decide +kernel
theorem dX6_turn_1 : decode cX6_turn 1 = .ok (.getfield 12, 3) := by decide +kernel
theorem dX6_turn_4 : decode cX6_turn 4 = .ok (.iload_n 1, 1) := by decide +kernel
theorem dX6_turn_5 : decode cX6_turn 5 = .ok (.invokevirtual 111, 3) := by decide +kernel
theorem dX6_turn_8 : decode cX6_turn 8 = .ok (.ifCond .ne 5, 3) := by decide +kernel
theorem dX6_turn_11 : decode cX6_turn 11 = .ok (.iconst (-1), 1) := by decide +kernel
theorem dX6_turn_12 : decode cX6_turn 12 = .ok (.ireturn, 1) := by decide +kernel
theorem dX6_turn_13 : decode cX6_turn 13 = .ok (.aload_n 0, 1) := by decide +kernel
theorem dX6_turn_14 : decode cX6_turn 14 = .ok (.getfield 12, 3) := by decide +kernel
theorem dX6_turn_17 : decode cX6_turn 17 = .ok (.getfield 118, 3) := by decide +kernel
theorem dX6_turn_20 : decode cX6_turn 20 = .ok (.iload_n 1, 1) := by decide +kernel
theorem dX6_turn_21 : decode cX6_turn 21 = .ok (.iaload, 1) := by decide +kernel
theorem dX6_turn_22 : decode cX6_turn 22 = .ok (.istore_n 3, 1) := by decide +kernel
theorem dX6_turn_23 : decode cX6_turn 23 = .ok (.iload_n 3, 1) := by decide +kernel
theorem dX6_turn_24 : decode cX6_turn 24 = .ok (.invokestatic 121, 3) := by decide +kernel
theorem dX6_turn_27 : decode cX6_turn 27 = .ok (.iload_n 2, 1) := by decide +kernel
theorem dX6_turn_28 : decode cX6_turn 28 = .ok (.iadd, 1) := by decide +kernel
theorem dX6_turn_29 : decode cX6_turn 29 = .ok (.iconst 4, 1) := by decide +kernel
theorem dX6_turn_30 : decode cX6_turn 30 = .ok (.invokestatic 124, 3) := by decide +kernel
theorem dX6_turn_33 : decode cX6_turn 33 = .ok (.istore 4, 2) := by decide +kernel
theorem dX6_turn_35 : decode cX6_turn 35 = .ok (.aload_n 0, 1) := by decide +kernel
theorem dX6_turn_36 : decode cX6_turn 36 = .ok (.getfield 12, 3) := by decide +kernel
theorem dX6_turn_39 : decode cX6_turn 39 = .ok (.getfield 118, 3) := by decide +kernel
theorem dX6_turn_42 : decode cX6_turn 42 = .ok (.iload_n 1, 1) := by decide +kernel
theorem dX6_turn_43 : decode cX6_turn 43 = .ok (.iload_n 3, 1) := by decide +kernel
theorem dX6_turn_44 : decode cX6_turn 44 = .ok (.iload 4, 2) := by decide +kernel
theorem dX6_turn_46 : decode cX6_turn 46 = .ok (.invokestatic 129, 3) := by decide +kernel
theorem dX6_turn_49 : decode cX6_turn 49 = .ok (.iastore, 1) := by decide +kernel
theorem dX6_turn_50 : decode cX6_turn 50 = .ok (.iload 4, 2) := by decide +kernel
theorem dX6_turn_52 : decode cX6_turn 52 = .ok (.ireturn, 1) := by decide +kernel
theorem dX6_move_0 : decode cX6_move 0 = .ok (.aload_n 0, 1) := by decide +kernel
theorem dX6_move_1 : decode cX6_move 1 = .ok (.getfield 12, 3) := by decide +kernel
theorem dX6_move_4 : decode cX6_move 4 = .ok (.iload_n 1, 1) := by decide +kernel
theorem dX6_move_5 : decode cX6_move 5 = .ok (.invokevirtual 111, 3) := by decide +kernel
theorem dX6_move_8 : decode cX6_move 8 = .ok (.ifCond .eq 14, 3) := by decide +kernel
theorem dX6_move_11 : decode cX6_move 11 = .ok (.aload_n 0, 1) := by decide +kernel
theorem dX6_move_12 : decode cX6_move 12 = .ok (.getfield 12, 3) := by decide +kernel
theorem dX6_move_15 : decode cX6_move 15 = .ok (.iload_n 2, 1) := by decide +kernel
theorem dX6_move_16 : decode cX6_move 16 = .ok (.invokevirtual 111, 3) := by decide +kernel
theorem dX6_move_19 : decode cX6_move 19 = .ok (.ifCond .ne 5, 3) := by decide +kernel
theorem dX6_move_22 : decode cX6_move 22 = .ok (.iconst (-1), 1) := by decide +kernel
theorem dX6_move_23 : decode cX6_move 23 = .ok (.ireturn, 1) := by decide +kernel
theorem dX6_move_24 : decode cX6_move 24 = .ok (.iload_n 1, 1) := by decide +kernel
theorem dX6_move_25 : decode cX6_move 25 = .ok (.iload_n 2, 1) := by decide +kernel
theorem dX6_move_26 : decode cX6_move 26 = .ok (.if_icmp .ne 5, 3) := by decide +kernel
theorem dX6_move_29 : decode cX6_move 29 = .ok (.iconst 0, 1) := by decide +kernel
theorem dX6_move_30 : decode cX6_move 30 = .ok (.ireturn, 1) := by decide +kernel
theorem dX6_move_31 : decode cX6_move 31 = .ok (.aload_n 0, 1) := by decide +kernel
theorem dX6_move_32 : decode cX6_move 32 = .ok (.getfield 12, 3) := by decide +kernel
theorem dX6_move_35 : decode cX6_move 35 = .ok (.getfield 118, 3) := by decide +kernel
theorem dX6_move_38 : decode cX6_move 38 = .ok (.iload_n 1, 1) := by decide +kernel
theorem dX6_move_39 : decode cX6_move 39 = .ok (.iaload, 1) := by decide +kernel
theorem dX6_move_40 : decode cX6_move 40 = .ok (.istore_n 3, 1) := by decide +kernel
theorem dX6_move_41 : decode cX6_move 41 = .ok (.aload_n 0, 1) := by decide +kernel
theorem dX6_move_42 : decode cX6_move 42 = .ok (.getfield 12, 3) := by decide +kernel
theorem dX6_move_45 : decode cX6_move 45 = .ok (.iload_n 1, 1) := by decide +kernel
theorem dX6_move_46 : decode cX6_move 46 = .ok (.invokevirtual 132, 3) := by decide +kernel
theorem dX6_move_49 : decode cX6_move 49 = .ok (.aload_n 0, 1) := by decide +kernel
theorem dX6_move_50 : decode cX6_move 50 = .ok (.getfield 12, 3) := by decide +kernel
theorem dX6_move_53 : decode cX6_move 53 = .ok (.iload_n 2, 1) := by decide +kernel
theorem dX6_move_54 : decode cX6_move 54 = .ok (.iload_n 3, 1) := by decide +kernel
theorem dX6_move_55 : decode cX6_move 55 = .ok (.invokevirtual 136, 3) := by decide +kernel
theorem dX6_move_58 : decode cX6_move 58 = .ok (.iconst 1, 1) := by decide +kernel
theorem dX6_move_59 : decode cX6_move 59 = .ok (.ireturn, 1) := by decide +kernel
theorem dX6_cut_0 : decode cX6_cut 0 = .ok (.aload_n 0, 1) := by decide +kernel
theorem dX6_cut_1 : decode cX6_cut 1 = .ok (.getfield 12, 3) := by decide +kernel
theorem dX6_cut_4 : decode cX6_cut 4 = .ok (.iload_n 1, 1) := by decide +kernel
theorem dX6_cut_5 : decode cX6_cut 5 = .ok (.invokevirtual 111, 3) := by decide +kernel
theorem dX6_cut_8 : decode cX6_cut 8 = .ok (.ifCond .ne 5, 3) := by decide +kernel
theorem dX6_cut_11 : decode cX6_cut 11 = .ok (.iconst (-1), 1) := by decide +kernel
theorem dX6_cut_12 : decode cX6_cut 12 = .ok (.ireturn, 1) := by decide +kernel
theorem dX6_cut_13 : decode cX6_cut 13 = .ok (.aload_n 0, 1) := by decide +kernel
theorem dX6_cut_14 : decode cX6_cut 14 = .ok (.getfield 12, 3) := by decide +kernel
theorem dX6_cut_17 : decode cX6_cut 17 = .ok (.iload_n 1, 1) := by decide +kernel
theorem dX6_cut_18 : decode cX6_cut 18 = .ok (.invokevirtual 132, 3) := by decide +kernel
theorem dX6_cut_21 : decode cX6_cut 21 = .ok (.aload_n 0, 1) := by decide +kernel
theorem dX6_cut_22 : decode cX6_cut 22 = .ok (.getfield 12, 3) := by decide +kernel
theorem dX6_cut_25 : decode cX6_cut 25 = .ok (.getfield 140, 3) := by decide +kernel
theorem dX6_cut_28 : decode cX6_cut 28 = .ok (.ireturn, 1) := by decide +kernel
theorem dX6_clear_0 : decode cX6_clear 0 = .ok (.aload_n 0, 1) := by decide +kernel
theorem dX6_clear_1 : decode cX6_clear 1 = .ok (.getfield 12, 3) := by decide +kernel
theorem dX6_clear_4 : decode cX6_clear 4 = .ok (.getfield 140, 3) := by decide +kernel
theorem dX6_clear_7 : decode cX6_clear 7 = .ok (.istore_n 1, 1) := by decide +kernel
theorem dX6_clear_8 : decode cX6_clear 8 = .ok (.aload_n 0, 1) := by decide +kernel
theorem dX6_clear_9 : decode cX6_clear 9 = .ok (.getfield 12, 3) := by decide +kernel
theorem dX6_clear_12 : decode cX6_clear 12 = .ok (.iconst 0, 1) := by decide +kernel
theorem dX6_clear_13 : decode cX6_clear 13 = .ok (.putfield 140, 3) := by decide +kernel
theorem dX6_clear_16 : decode cX6_clear 16 = .ok (.iload_n 1, 1) := by decide +kernel
theorem dX6_clear_17 : decode cX6_clear 17 = .ok (.ireturn, 1) := by decide +kernel
theorem dX6_of_0 : decode cX6_of 0 = .ok (.aload_n 0, 1) := by decide +kernel
theorem dX6_of_1 : decode cX6_of 1 = .ok (.getfield 12, 3) := by decide +kernel
theorem dX6_of_4 : decode cX6_of 4 = .ok (.iload_n 1, 1) := by decide +kernel
theorem dX6_of_5 : decode cX6_of 5 = .ok (.invokevirtual 111, 3) := by decide +kernel
theorem dX6_of_8 : decode cX6_of 8 = .ok (.ifCond .ne 5, 3) := by decide +kernel
theorem dX6_of_11 : decode cX6_of 11 = .ok (.iconst (-1), 1) := by decide +kernel
theorem dX6_of_12 : decode cX6_of 12 = .ok (.ireturn, 1) := by decide +kernel
theorem dX6_of_13 : decode cX6_of 13 = .ok (.aload_n 0, 1) := by decide +kernel
theorem dX6_of_14 : decode cX6_of 14 = .ok (.getfield 12, 3) := by decide +kernel
theorem dX6_of_17 : decode cX6_of 17 = .ok (.getfield 118, 3) := by decide +kernel
theorem dX6_of_20 : decode cX6_of 20 = .ok (.iload_n 1, 1) := by decide +kernel
theorem dX6_of_21 : decode cX6_of 21 = .ok (.iaload, 1) := by decide +kernel
theorem dX6_of_22 : decode cX6_of 22 = .ok (.istore_n 3, 1) := by decide +kernel
theorem dX6_of_23 : decode cX6_of 23 = .ok (.iload_n 3, 1) := by decide +kernel
theorem dX6_of_24 : decode cX6_of 24 = .ok (.invokestatic 144, 3) := by decide +kernel
theorem dX6_of_27 : decode cX6_of 27 = .ok (.istore 4, 2) := by decide +kernel
theorem dX6_of_29 : decode cX6_of 29 = .ok (.iload 4, 2) := by decide +kernel
theorem dX6_of_31 : decode cX6_of 31 = .ok (.invokestatic 147, 3) := by decide +kernel
theorem dX6_of_34 : decode cX6_of 34 = .ok (.istore 5, 2) := by decide +kernel
theorem dX6_of_36 : decode cX6_of 36 = .ok (.iload_n 2, 1) := by decide +kernel
theorem dX6_of_37 : decode cX6_of 37 = .ok (.tableswitch 106 0 6 #[43, 46, 51, 56, 71, 86, 104], 43) := by decide +kernel
theorem dX6_of_80 : decode cX6_of 80 = .ok (.iload 4, 2) := by decide +kernel
theorem dX6_of_82 : decode cX6_of 82 = .ok (.ireturn, 1) := by decide +kernel
theorem dX6_of_83 : decode cX6_of 83 = .ok (.iload_n 3, 1) := by decide +kernel
theorem dX6_of_84 : decode cX6_of 84 = .ok (.invokestatic 121, 3) := by decide +kernel
theorem dX6_of_87 : decode cX6_of 87 = .ok (.ireturn, 1) := by decide +kernel
theorem dX6_of_88 : decode cX6_of 88 = .ok (.iload_n 3, 1) := by decide +kernel
theorem dX6_of_89 : decode cX6_of 89 = .ok (.invokestatic 150, 3) := by decide +kernel
theorem dX6_of_92 : decode cX6_of 92 = .ok (.ireturn, 1) := by decide +kernel
theorem dX6_of_93 : decode cX6_of 93 = .ok (.iload 5, 2) := by decide +kernel
theorem dX6_of_95 : decode cX6_of 95 = .ok (.ifCond .eq 10, 3) := by decide +kernel
theorem dX6_of_98 : decode cX6_of 98 = .ok (.iload_n 3, 1) := by decide +kernel
theorem dX6_of_99 : decode cX6_of 99 = .ok (.invokestatic 153, 3) := by decide +kernel
theorem dX6_of_102 : decode cX6_of 102 = .ok (.goto 5, 3) := by decide +kernel
theorem dX6_of_105 : decode cX6_of 105 = .ok (.bipush (-5), 2) := by decide +kernel
theorem dX6_of_107 : decode cX6_of 107 = .ok (.ireturn, 1) := by decide +kernel
theorem dX6_of_108 : decode cX6_of 108 = .ok (.iload 5, 2) := by decide +kernel
theorem dX6_of_110 : decode cX6_of 110 = .ok (.ifCond .eq 10, 3) := by decide +kernel
theorem dX6_of_113 : decode cX6_of 113 = .ok (.iload_n 3, 1) := by decide +kernel
theorem dX6_of_114 : decode cX6_of 114 = .ok (.invokestatic 156, 3) := by decide +kernel
theorem dX6_of_117 : decode cX6_of 117 = .ok (.goto 5, 3) := by decide +kernel
theorem dX6_of_120 : decode cX6_of 120 = .ok (.bipush (-5), 2) := by decide +kernel
theorem dX6_of_122 : decode cX6_of 122 = .ok (.ireturn, 1) := by decide +kernel
theorem dX6_of_123 : decode cX6_of 123 = .ok (.iload 4, 2) := by decide +kernel
theorem dX6_of_125 : decode cX6_of 125 = .ok (.invokestatic 159, 3) := by decide +kernel
theorem dX6_of_128 : decode cX6_of 128 = .ok (.ifCond .eq 10, 3) := by decide +kernel
theorem dX6_of_131 : decode cX6_of 131 = .ok (.iload_n 3, 1) := by decide +kernel
theorem dX6_of_132 : decode cX6_of 132 = .ok (.invokestatic 162, 3) := by decide +kernel
theorem dX6_of_135 : decode cX6_of 135 = .ok (.goto 5, 3) := by decide +kernel
theorem dX6_of_138 : decode cX6_of 138 = .ok (.bipush (-5), 2) := by decide +kernel
theorem dX6_of_140 : decode cX6_of 140 = .ok (.ireturn, 1) := by decide +kernel
theorem dX6_of_141 : decode cX6_of 141 = .ok (.iload_n 3, 1) := by decide +kernel
theorem dX6_of_142 : decode cX6_of 142 = .ok (.ireturn, 1) := by decide +kernel
theorem dX6_of_143 : decode cX6_of 143 = .ok (.iconst (-1), 1) := by decide +kernel
theorem dX6_of_144 : decode cX6_of 144 = .ok (.ireturn, 1) := by decide +kernel
theorem dX6_isUnder_0 : decode cX6_isUnder 0 = .ok (.aload_n 0, 1) := by decide +kernel
theorem dX6_isUnder_1 : decode cX6_isUnder 1 = .ok (.getfield 12, 3) := by decide +kernel
theorem dX6_isUnder_4 : decode cX6_isUnder 4 = .ok (.iload_n 1, 1) := by decide +kernel
theorem dX6_isUnder_5 : decode cX6_isUnder 5 = .ok (.invokevirtual 111, 3) := by decide +kernel
theorem dX6_isUnder_8 : decode cX6_isUnder 8 = .ok (.ifCond .eq 10, 3) := by decide +kernel
theorem dX6_isUnder_11 : decode cX6_isUnder 11 = .ok (.iload_n 2, 1) := by decide +kernel
theorem dX6_isUnder_12 : decode cX6_isUnder 12 = .ok (.invokestatic 93, 3) := by decide +kernel
theorem dX6_isUnder_15 : decode cX6_isUnder 15 = .ok (.ifCond .ne 5, 3) := by decide +kernel
theorem dX6_isUnder_18 : decode cX6_isUnder 18 = .ok (.iconst (-1), 1) := by decide +kernel
theorem dX6_isUnder_19 : decode cX6_isUnder 19 = .ok (.ireturn, 1) := by decide +kernel
theorem dX6_isUnder_20 : decode cX6_isUnder 20 = .ok (.aload_n 0, 1) := by decide +kernel
theorem dX6_isUnder_21 : decode cX6_isUnder 21 = .ok (.getfield 12, 3) := by decide +kernel
theorem dX6_isUnder_24 : decode cX6_isUnder 24 = .ok (.getfield 118, 3) := by decide +kernel
theorem dX6_isUnder_27 : decode cX6_isUnder 27 = .ok (.iload_n 1, 1) := by decide +kernel
theorem dX6_isUnder_28 : decode cX6_isUnder 28 = .ok (.iaload, 1) := by decide +kernel
theorem dX6_isUnder_29 : decode cX6_isUnder 29 = .ok (.invokestatic 144, 3) := by decide +kernel
theorem dX6_isUnder_32 : decode cX6_isUnder 32 = .ok (.istore_n 3, 1) := by decide +kernel
theorem dX6_isUnder_33 : decode cX6_isUnder 33 = .ok (.iconst 0, 1) := by decide +kernel
theorem dX6_isUnder_34 : decode cX6_isUnder 34 = .ok (.istore 4, 2) := by decide +kernel
theorem dX6_isUnder_36 : decode cX6_isUnder 36 = .ok (.iload 4, 2) := by decide +kernel
theorem dX6_isUnder_38 : decode cX6_isUnder 38 = .ok (.bipush 7, 2) := by decide +kernel
theorem dX6_isUnder_40 : decode cX6_isUnder 40 = .ok (.if_icmp .ge 29, 3) := by decide +kernel
theorem dX6_isUnder_43 : decode cX6_isUnder 43 = .ok (.iload_n 3, 1) := by decide +kernel
theorem dX6_isUnder_44 : decode cX6_isUnder 44 = .ok (.invokestatic 93, 3) := by decide +kernel
theorem dX6_isUnder_47 : decode cX6_isUnder 47 = .ok (.ifCond .eq 22, 3) := by decide +kernel
theorem dX6_isUnder_50 : decode cX6_isUnder 50 = .ok (.iload_n 3, 1) := by decide +kernel
theorem dX6_isUnder_51 : decode cX6_isUnder 51 = .ok (.iload_n 2, 1) := by decide +kernel
theorem dX6_isUnder_52 : decode cX6_isUnder 52 = .ok (.if_icmp .ne 5, 3) := by decide +kernel
theorem dX6_isUnder_55 : decode cX6_isUnder 55 = .ok (.iconst 1, 1) := by decide +kernel
theorem dX6_isUnder_56 : decode cX6_isUnder 56 = .ok (.ireturn, 1) := by decide +kernel
theorem dX6_isUnder_57 : decode cX6_isUnder 57 = .ok (.getstatic 165, 3) := by decide +kernel
theorem dX6_isUnder_60 : decode cX6_isUnder 60 = .ok (.iload_n 3, 1) := by decide +kernel
theorem dX6_isUnder_61 : decode cX6_isUnder 61 = .ok (.iaload, 1) := by decide +kernel
theorem dX6_isUnder_62 : decode cX6_isUnder 62 = .ok (.istore_n 3, 1) := by decide +kernel
theorem dX6_isUnder_63 : decode cX6_isUnder 63 = .ok (.iinc 4 1, 3) := by decide +kernel
theorem dX6_isUnder_66 : decode cX6_isUnder 66 = .ok (.goto (-30), 3) := by decide +kernel
theorem dX6_isUnder_69 : decode cX6_isUnder 69 = .ok (.iconst 0, 1) := by decide +kernel
theorem dX6_isUnder_70 : decode cX6_isUnder 70 = .ok (.ireturn, 1) := by decide +kernel
theorem dX6_light_0 : decode cX6_light 0 = .ok (.aload_n 0, 1) := by decide +kernel
theorem dX6_light_1 : decode cX6_light 1 = .ok (.iload_n 1, 1) := by decide +kernel
theorem dX6_light_2 : decode cX6_light 2 = .ok (.invokevirtual 168, 3) := by decide +kernel
theorem dX6_light_5 : decode cX6_light 5 = .ok (.ifCond .eq 10, 3) := by decide +kernel
theorem dX6_light_8 : decode cX6_light 8 = .ok (.iload_n 2, 1) := by decide +kernel
theorem dX6_light_9 : decode cX6_light 9 = .ok (.invokestatic 171, 3) := by decide +kernel
theorem dX6_light_12 : decode cX6_light 12 = .ok (.ifCond .ne 7, 3) := by decide +kernel
theorem dX6_light_15 : decode cX6_light 15 = .ok (.ldc2_w 174, 3) := by decide +kernel
theorem dX6_light_18 : decode cX6_light 18 = .ok (.lreturn, 1) := by decide +kernel
theorem dX6_light_19 : decode cX6_light 19 = .ok (.aload_n 0, 1) := by decide +kernel
theorem dX6_light_20 : decode cX6_light 20 = .ok (.iload_n 1, 1) := by decide +kernel
theorem dX6_light_21 : decode cX6_light 21 = .ok (.invokevirtual 176, 3) := by decide +kernel
theorem dX6_light_24 : decode cX6_light 24 = .ok (.aload_n 0, 1) := by decide +kernel
theorem dX6_light_25 : decode cX6_light 25 = .ok (.getfield 68, 3) := by decide +kernel
theorem dX6_light_28 : decode cX6_light 28 = .ok (.iload_n 2, 1) := by decide +kernel
theorem dX6_light_29 : decode cX6_light 29 = .ok (.invokevirtual 179, 3) := by decide +kernel
theorem dX6_light_32 : decode cX6_light 32 = .ok (.lreturn, 1) := by decide +kernel
theorem dX6_left_0 : decode cX6_left 0 = .ok (.aload_n 0, 1) := by decide +kernel
theorem dX6_left_1 : decode cX6_left 1 = .ok (.iload_n 1, 1) := by decide +kernel
theorem dX6_left_2 : decode cX6_left 2 = .ok (.invokevirtual 168, 3) := by decide +kernel
theorem dX6_left_5 : decode cX6_left 5 = .ok (.ifCond .eq 10, 3) := by decide +kernel
theorem dX6_left_8 : decode cX6_left 8 = .ok (.iload_n 2, 1) := by decide +kernel
theorem dX6_left_9 : decode cX6_left 9 = .ok (.invokestatic 183, 3) := by decide +kernel
theorem dX6_left_12 : decode cX6_left 12 = .ok (.ifCond .ne 7, 3) := by decide +kernel
theorem dX6_left_15 : decode cX6_left 15 = .ok (.ldc2_w 174, 3) := by decide +kernel
theorem dX6_left_18 : decode cX6_left 18 = .ok (.lreturn, 1) := by decide +kernel
theorem dX6_left_19 : decode cX6_left 19 = .ok (.aload_n 0, 1) := by decide +kernel
theorem dX6_left_20 : decode cX6_left 20 = .ok (.iload_n 1, 1) := by decide +kernel
theorem dX6_left_21 : decode cX6_left 21 = .ok (.invokevirtual 176, 3) := by decide +kernel
theorem dX6_left_24 : decode cX6_left 24 = .ok (.aload_n 0, 1) := by decide +kernel
theorem dX6_left_25 : decode cX6_left 25 = .ok (.iload_n 2, 1) := by decide +kernel
theorem dX6_left_26 : decode cX6_left 26 = .ok (.invokevirtual 186, 3) := by decide +kernel
theorem dX6_left_29 : decode cX6_left 29 = .ok (.lreturn, 1) := by decide +kernel
theorem dX6_degree_0 : decode cX6_degree 0 = .ok (.aload_n 0, 1) := by decide +kernel
theorem dX6_degree_1 : decode cX6_degree 1 = .ok (.iload_n 1, 1) := by decide +kernel
theorem dX6_degree_2 : decode cX6_degree 2 = .ok (.invokevirtual 168, 3) := by decide +kernel
theorem dX6_degree_5 : decode cX6_degree 5 = .ok (.ifCond .eq 10, 3) := by decide +kernel
theorem dX6_degree_8 : decode cX6_degree 8 = .ok (.iload_n 2, 1) := by decide +kernel
theorem dX6_degree_9 : decode cX6_degree 9 = .ok (.invokestatic 183, 3) := by decide +kernel
theorem dX6_degree_12 : decode cX6_degree 12 = .ok (.ifCond .ne 7, 3) := by decide +kernel
theorem dX6_degree_15 : decode cX6_degree 15 = .ok (.ldc2_w 174, 3) := by decide +kernel
theorem dX6_degree_18 : decode cX6_degree 18 = .ok (.lreturn, 1) := by decide +kernel
theorem dX6_degree_19 : decode cX6_degree 19 = .ok (.aload_n 0, 1) := by decide +kernel
theorem dX6_degree_20 : decode cX6_degree 20 = .ok (.iload_n 1, 1) := by decide +kernel
theorem dX6_degree_21 : decode cX6_degree 21 = .ok (.invokevirtual 176, 3) := by decide +kernel
theorem dX6_degree_24 : decode cX6_degree 24 = .ok (.aload_n 0, 1) := by decide +kernel
theorem dX6_degree_25 : decode cX6_degree 25 = .ok (.getfield 68, 3) := by decide +kernel
theorem dX6_degree_28 : decode cX6_degree 28 = .ok (.invokevirtual 189, 3) := by decide +kernel
theorem dX6_degree_31 : decode cX6_degree 31 = .ok (.ifCond .ne 10, 3) := by decide +kernel
theorem dX6_degree_34 : decode cX6_degree 34 = .ok (.aload_n 0, 1) := by decide +kernel
theorem dX6_degree_35 : decode cX6_degree 35 = .ok (.invokevirtual 192, 3) := by decide +kernel
theorem dX6_degree_38 : decode cX6_degree 38 = .ok (.ifCond .eq 7, 3) := by decide +kernel
theorem dX6_degree_41 : decode cX6_degree 41 = .ok (.ldc2_w 174, 3) := by decide +kernel
theorem dX6_degree_44 : decode cX6_degree 44 = .ok (.lreturn, 1) := by decide +kernel
theorem dX6_degree_45 : decode cX6_degree 45 = .ok (.aload_n 0, 1) := by decide +kernel
theorem dX6_degree_46 : decode cX6_degree 46 = .ok (.getfield 68, 3) := by decide +kernel
theorem dX6_degree_49 : decode cX6_degree 49 = .ok (.invokevirtual 195, 3) := by decide +kernel
theorem dX6_degree_52 : decode cX6_degree 52 = .ok (.aload_n 0, 1) := by decide +kernel
theorem dX6_degree_53 : decode cX6_degree 53 = .ok (.getfield 68, 3) := by decide +kernel
theorem dX6_degree_56 : decode cX6_degree 56 = .ok (.getfield 199, 3) := by decide +kernel
theorem dX6_degree_59 : decode cX6_degree 59 = .ok (.aload_n 0, 1) := by decide +kernel
theorem dX6_degree_60 : decode cX6_degree 60 = .ok (.getfield 68, 3) := by decide +kernel
theorem dX6_degree_63 : decode cX6_degree 63 = .ok (.getfield 199, 3) := by decide +kernel
theorem dX6_degree_66 : decode cX6_degree 66 = .ok (.lmul, 1) := by decide +kernel
theorem dX6_degree_67 : decode cX6_degree 67 = .ok (.iload_n 2, 1) := by decide +kernel
theorem dX6_degree_68 : decode cX6_degree 68 = .ok (.invokestatic 203, 3) := by decide +kernel
theorem dX6_degree_71 : decode cX6_degree 71 = .ok (.lreturn, 1) := by decide +kernel
theorem dX6_sort_0 : decode cX6_sort 0 = .ok (.aload_n 0, 1) := by decide +kernel
theorem dX6_sort_1 : decode cX6_sort 1 = .ok (.iload_n 1, 1) := by decide +kernel
theorem dX6_sort_2 : decode cX6_sort 2 = .ok (.invokevirtual 168, 3) := by decide +kernel
theorem dX6_sort_5 : decode cX6_sort 5 = .ok (.ifCond .ne 5, 3) := by decide +kernel
theorem dX6_sort_8 : decode cX6_sort 8 = .ok (.iconst (-1), 1) := by decide +kernel
theorem dX6_sort_9 : decode cX6_sort 9 = .ok (.ireturn, 1) := by decide +kernel
theorem dX6_sort_10 : decode cX6_sort 10 = .ok (.aload_n 0, 1) := by decide +kernel
theorem dX6_sort_11 : decode cX6_sort 11 = .ok (.iload_n 1, 1) := by decide +kernel
theorem dX6_sort_12 : decode cX6_sort 12 = .ok (.invokevirtual 176, 3) := by decide +kernel
theorem dX6_sort_15 : decode cX6_sort 15 = .ok (.aload_n 0, 1) := by decide +kernel
theorem dX6_sort_16 : decode cX6_sort 16 = .ok (.getfield 68, 3) := by decide +kernel
theorem dX6_sort_19 : decode cX6_sort 19 = .ok (.invokevirtual 189, 3) := by decide +kernel
theorem dX6_sort_22 : decode cX6_sort 22 = .ok (.ifCond .eq 5, 3) := by decide +kernel
theorem dX6_sort_25 : decode cX6_sort 25 = .ok (.iconst 0, 1) := by decide +kernel
theorem dX6_sort_26 : decode cX6_sort 26 = .ok (.ireturn, 1) := by decide +kernel
theorem dX6_sort_27 : decode cX6_sort 27 = .ok (.aload_n 0, 1) := by decide +kernel
theorem dX6_sort_28 : decode cX6_sort 28 = .ok (.getfield 68, 3) := by decide +kernel
theorem dX6_sort_31 : decode cX6_sort 31 = .ok (.getfield 207, 3) := by decide +kernel
theorem dX6_sort_34 : decode cX6_sort 34 = .ok (.lconst 0, 1) := by decide +kernel
theorem dX6_sort_35 : decode cX6_sort 35 = .ok (.lcmp, 1) := by decide +kernel
theorem dX6_sort_36 : decode cX6_sort 36 = .ok (.ifCond .ne 29, 3) := by decide +kernel
theorem dX6_sort_39 : decode cX6_sort 39 = .ok (.aload_n 0, 1) := by decide +kernel
theorem dX6_sort_40 : decode cX6_sort 40 = .ok (.getfield 68, 3) := by decide +kernel
theorem dX6_sort_43 : decode cX6_sort 43 = .ok (.getfield 210, 3) := by decide +kernel
theorem dX6_sort_46 : decode cX6_sort 46 = .ok (.lconst 0, 1) := by decide +kernel
theorem dX6_sort_47 : decode cX6_sort 47 = .ok (.lcmp, 1) := by decide +kernel
theorem dX6_sort_48 : decode cX6_sort 48 = .ok (.ifCond .ne 17, 3) := by decide +kernel
theorem dX6_sort_51 : decode cX6_sort 51 = .ok (.aload_n 0, 1) := by decide +kernel
theorem dX6_sort_52 : decode cX6_sort 52 = .ok (.getfield 68, 3) := by decide +kernel
theorem dX6_sort_55 : decode cX6_sort 55 = .ok (.getfield 213, 3) := by decide +kernel
theorem dX6_sort_58 : decode cX6_sort 58 = .ok (.lconst 0, 1) := by decide +kernel
theorem dX6_sort_59 : decode cX6_sort 59 = .ok (.lcmp, 1) := by decide +kernel
theorem dX6_sort_60 : decode cX6_sort 60 = .ok (.ifCond .ne 5, 3) := by decide +kernel
theorem dX6_sort_63 : decode cX6_sort 63 = .ok (.iconst 1, 1) := by decide +kernel
theorem dX6_sort_64 : decode cX6_sort 64 = .ok (.ireturn, 1) := by decide +kernel
theorem dX6_sort_65 : decode cX6_sort 65 = .ok (.aload_n 0, 1) := by decide +kernel
theorem dX6_sort_66 : decode cX6_sort 66 = .ok (.invokevirtual 192, 3) := by decide +kernel
theorem dX6_sort_69 : decode cX6_sort 69 = .ok (.ifCond .eq 6, 3) := by decide +kernel
theorem dX6_sort_72 : decode cX6_sort 72 = .ok (.bipush (-9), 2) := by decide +kernel
theorem dX6_sort_74 : decode cX6_sort 74 = .ok (.ireturn, 1) := by decide +kernel
theorem dX6_sort_75 : decode cX6_sort 75 = .ok (.aload_n 0, 1) := by decide +kernel
theorem dX6_sort_76 : decode cX6_sort 76 = .ok (.getfield 68, 3) := by decide +kernel
theorem dX6_sort_79 : decode cX6_sort 79 = .ok (.invokevirtual 195, 3) := by decide +kernel
theorem dX6_sort_82 : decode cX6_sort 82 = .ok (.aload_n 0, 1) := by decide +kernel
theorem dX6_sort_83 : decode cX6_sort 83 = .ok (.getfield 68, 3) := by decide +kernel
theorem dX6_sort_86 : decode cX6_sort 86 = .ok (.getfield 199, 3) := by decide +kernel
theorem dX6_sort_89 : decode cX6_sort 89 = .ok (.aload_n 0, 1) := by decide +kernel
theorem dX6_sort_90 : decode cX6_sort 90 = .ok (.getfield 68, 3) := by decide +kernel
theorem dX6_sort_93 : decode cX6_sort 93 = .ok (.getfield 199, 3) := by decide +kernel
theorem dX6_sort_96 : decode cX6_sort 96 = .ok (.lmul, 1) := by decide +kernel
theorem dX6_sort_97 : decode cX6_sort 97 = .ok (.lcmp, 1) := by decide +kernel
theorem dX6_sort_98 : decode cX6_sort 98 = .ok (.ifCond .eq 5, 3) := by decide +kernel
theorem dX6_sort_101 : decode cX6_sort 101 = .ok (.iconst 5, 1) := by decide +kernel
theorem dX6_sort_102 : decode cX6_sort 102 = .ok (.ireturn, 1) := by decide +kernel
theorem dX6_sort_103 : decode cX6_sort 103 = .ok (.aload_n 0, 1) := by decide +kernel
theorem dX6_sort_104 : decode cX6_sort 104 = .ok (.getfield 68, 3) := by decide +kernel
theorem dX6_sort_107 : decode cX6_sort 107 = .ok (.getfield 213, 3) := by decide +kernel
theorem dX6_sort_110 : decode cX6_sort 110 = .ok (.lconst 0, 1) := by decide +kernel
theorem dX6_sort_111 : decode cX6_sort 111 = .ok (.lcmp, 1) := by decide +kernel
theorem dX6_sort_112 : decode cX6_sort 112 = .ok (.ifCond .ne 5, 3) := by decide +kernel
theorem dX6_sort_115 : decode cX6_sort 115 = .ok (.iconst 2, 1) := by decide +kernel
theorem dX6_sort_116 : decode cX6_sort 116 = .ok (.ireturn, 1) := by decide +kernel
theorem dX6_sort_117 : decode cX6_sort 117 = .ok (.aload_n 0, 1) := by decide +kernel
theorem dX6_sort_118 : decode cX6_sort 118 = .ok (.getfield 68, 3) := by decide +kernel
theorem dX6_sort_121 : decode cX6_sort 121 = .ok (.getfield 207, 3) := by decide +kernel
theorem dX6_sort_124 : decode cX6_sort 124 = .ok (.lconst 0, 1) := by decide +kernel
theorem dX6_sort_125 : decode cX6_sort 125 = .ok (.lcmp, 1) := by decide +kernel
theorem dX6_sort_126 : decode cX6_sort 126 = .ok (.ifCond .ne 19, 3) := by decide +kernel
theorem dX6_sort_129 : decode cX6_sort 129 = .ok (.aload_n 0, 1) := by decide +kernel
theorem dX6_sort_130 : decode cX6_sort 130 = .ok (.getfield 68, 3) := by decide +kernel
theorem dX6_sort_133 : decode cX6_sort 133 = .ok (.getfield 210, 3) := by decide +kernel
theorem dX6_sort_136 : decode cX6_sort 136 = .ok (.lconst 0, 1) := by decide +kernel
theorem dX6_sort_137 : decode cX6_sort 137 = .ok (.lcmp, 1) := by decide +kernel
theorem dX6_sort_138 : decode cX6_sort 138 = .ok (.ifCond .ne 7, 3) := by decide +kernel
theorem dX6_sort_141 : decode cX6_sort 141 = .ok (.iconst 3, 1) := by decide +kernel
theorem dX6_sort_142 : decode cX6_sort 142 = .ok (.goto 4, 3) := by decide +kernel
theorem dX6_sort_145 : decode cX6_sort 145 = .ok (.iconst 4, 1) := by decide +kernel
theorem dX6_sort_146 : decode cX6_sort 146 = .ok (.ireturn, 1) := by decide +kernel
theorem dX6_order_0 : decode cX6_order 0 = .ok (.iload_n 1, 1) := by decide +kernel
theorem dX6_order_1 : decode cX6_order 1 = .ok (.ifCond .lt 8, 3) := by decide +kernel
theorem dX6_order_4 : decode cX6_order 4 = .ok (.iload_n 1, 1) := by decide +kernel
theorem dX6_order_5 : decode cX6_order 5 = .ok (.iconst 3, 1) := by decide +kernel
theorem dX6_order_6 : decode cX6_order 6 = .ok (.if_icmp .le 5, 3) := by decide +kernel
theorem dX6_order_9 : decode cX6_order 9 = .ok (.iconst (-1), 1) := by decide +kernel
theorem dX6_order_10 : decode cX6_order 10 = .ok (.ireturn, 1) := by decide +kernel
theorem dX6_order_11 : decode cX6_order 11 = .ok (.aload_n 0, 1) := by decide +kernel
theorem dX6_order_12 : decode cX6_order 12 = .ok (.getfield 12, 3) := by decide +kernel
theorem dX6_order_15 : decode cX6_order 15 = .ok (.getfield 140, 3) := by decide +kernel
theorem dX6_order_18 : decode cX6_order 18 = .ok (.iconst 5, 1) := by decide +kernel
theorem dX6_order_19 : decode cX6_order 19 = .ok (.if_icmp .le 6, 3) := by decide +kernel
theorem dX6_order_22 : decode cX6_order 22 = .ok (.bipush (-3), 2) := by decide +kernel
theorem dX6_order_24 : decode cX6_order 24 = .ok (.ireturn, 1) := by decide +kernel
theorem dX6_order_25 : decode cX6_order 25 = .ok (.aload_n 0, 1) := by decide +kernel
theorem dX6_order_26 : decode cX6_order 26 = .ok (.getfield 54, 3) := by decide +kernel
theorem dX6_order_29 : decode cX6_order 29 = .ok (.aload_n 0, 1) := by decide +kernel
theorem dX6_order_30 : decode cX6_order 30 = .ok (.getfield 12, 3) := by decide +kernel
theorem dX6_order_33 : decode cX6_order 33 = .ok (.aload_n 0, 1) := by decide +kernel
theorem dX6_order_34 : decode cX6_order 34 = .ok (.getfield 47, 3) := by decide +kernel
theorem dX6_order_37 : decode cX6_order 37 = .ok (.invokevirtual 216, 3) := by decide +kernel
theorem dX6_order_40 : decode cX6_order 40 = .ok (.iload_n 1, 1) := by decide +kernel
theorem dX6_order_41 : decode cX6_order 41 = .ok (.tableswitch 51 0 2 #[27, 35, 43], 27) := by decide +kernel
theorem dX6_order_68 : decode cX6_order 68 = .ok (.aload_n 0, 1) := by decide +kernel
theorem dX6_order_69 : decode cX6_order 69 = .ok (.getfield 47, 3) := by decide +kernel
theorem dX6_order_72 : decode cX6_order 72 = .ok (.getfield 220, 3) := by decide +kernel
theorem dX6_order_75 : decode cX6_order 75 = .ok (.ireturn, 1) := by decide +kernel
theorem dX6_order_76 : decode cX6_order 76 = .ok (.aload_n 0, 1) := by decide +kernel
theorem dX6_order_77 : decode cX6_order 77 = .ok (.getfield 47, 3) := by decide +kernel
theorem dX6_order_80 : decode cX6_order 80 = .ok (.getfield 223, 3) := by decide +kernel
theorem dX6_order_83 : decode cX6_order 83 = .ok (.ireturn, 1) := by decide +kernel
theorem dX6_order_84 : decode cX6_order 84 = .ok (.aload_n 0, 1) := by decide +kernel
theorem dX6_order_85 : decode cX6_order 85 = .ok (.getfield 47, 3) := by decide +kernel
theorem dX6_order_88 : decode cX6_order 88 = .ok (.getfield 226, 3) := by decide +kernel
theorem dX6_order_91 : decode cX6_order 91 = .ok (.ireturn, 1) := by decide +kernel
theorem dX6_order_92 : decode cX6_order 92 = .ok (.aload_n 0, 1) := by decide +kernel
theorem dX6_order_93 : decode cX6_order 93 = .ok (.getfield 47, 3) := by decide +kernel
theorem dX6_order_96 : decode cX6_order 96 = .ok (.invokevirtual 229, 3) := by decide +kernel
theorem dX6_order_99 : decode cX6_order 99 = .ok (.ireturn, 1) := by decide +kernel
theorem dX6_orderLight_0 : decode cX6_orderLight 0 = .ok (.iload_n 1, 1) := by decide +kernel
theorem dX6_orderLight_1 : decode cX6_orderLight 1 = .ok (.ifCond .lt 26, 3) := by decide +kernel
theorem dX6_orderLight_4 : decode cX6_orderLight 4 = .ok (.iload_n 1, 1) := by decide +kernel
theorem dX6_orderLight_5 : decode cX6_orderLight 5 = .ok (.iconst 1, 1) := by decide +kernel
theorem dX6_orderLight_6 : decode cX6_orderLight 6 = .ok (.if_icmp .gt 21, 3) := by decide +kernel
theorem dX6_orderLight_9 : decode cX6_orderLight 9 = .ok (.iload_n 2, 1) := by decide +kernel
theorem dX6_orderLight_10 : decode cX6_orderLight 10 = .ok (.invokestatic 171, 3) := by decide +kernel
theorem dX6_orderLight_13 : decode cX6_orderLight 13 = .ok (.ifCond .eq 14, 3) := by decide +kernel
theorem dX6_orderLight_16 : decode cX6_orderLight 16 = .ok (.aload_n 0, 1) := by decide +kernel
theorem dX6_orderLight_17 : decode cX6_orderLight 17 = .ok (.getfield 12, 3) := by decide +kernel
theorem dX6_orderLight_20 : decode cX6_orderLight 20 = .ok (.getfield 140, 3) := by decide +kernel
theorem dX6_orderLight_23 : decode cX6_orderLight 23 = .ok (.iconst 5, 1) := by decide +kernel
theorem dX6_orderLight_24 : decode cX6_orderLight 24 = .ok (.if_icmp .le 7, 3) := by decide +kernel
theorem dX6_orderLight_27 : decode cX6_orderLight 27 = .ok (.ldc2_w 174, 3) := by decide +kernel
theorem dX6_orderLight_30 : decode cX6_orderLight 30 = .ok (.lreturn, 1) := by decide +kernel
theorem dX6_orderLight_31 : decode cX6_orderLight 31 = .ok (.aload_n 0, 1) := by decide +kernel
theorem dX6_orderLight_32 : decode cX6_orderLight 32 = .ok (.getfield 54, 3) := by decide +kernel
theorem dX6_orderLight_35 : decode cX6_orderLight 35 = .ok (.aload_n 0, 1) := by decide +kernel
theorem dX6_orderLight_36 : decode cX6_orderLight 36 = .ok (.getfield 12, 3) := by decide +kernel
theorem dX6_orderLight_39 : decode cX6_orderLight 39 = .ok (.aload_n 0, 1) := by decide +kernel
theorem dX6_orderLight_40 : decode cX6_orderLight 40 = .ok (.getfield 47, 3) := by decide +kernel
theorem dX6_orderLight_43 : decode cX6_orderLight 43 = .ok (.invokevirtual 216, 3) := by decide +kernel
theorem dX6_orderLight_46 : decode cX6_orderLight 46 = .ok (.iload_n 1, 1) := by decide +kernel
theorem dX6_orderLight_47 : decode cX6_orderLight 47 = .ok (.ifCond .ne 17, 3) := by decide +kernel
theorem dX6_orderLight_50 : decode cX6_orderLight 50 = .ok (.aload_n 0, 1) := by decide +kernel
theorem dX6_orderLight_51 : decode cX6_orderLight 51 = .ok (.getfield 47, 3) := by decide +kernel
theorem dX6_orderLight_54 : decode cX6_orderLight 54 = .ok (.getfield 233, 3) := by decide +kernel
theorem dX6_orderLight_57 : decode cX6_orderLight 57 = .ok (.iload_n 2, 1) := by decide +kernel
theorem dX6_orderLight_58 : decode cX6_orderLight 58 = .ok (.invokevirtual 179, 3) := by decide +kernel
theorem dX6_orderLight_61 : decode cX6_orderLight 61 = .ok (.goto 14, 3) := by decide +kernel
theorem dX6_orderLight_64 : decode cX6_orderLight 64 = .ok (.aload_n 0, 1) := by decide +kernel
theorem dX6_orderLight_65 : decode cX6_orderLight 65 = .ok (.getfield 47, 3) := by decide +kernel
theorem dX6_orderLight_68 : decode cX6_orderLight 68 = .ok (.getfield 236, 3) := by decide +kernel
theorem dX6_orderLight_71 : decode cX6_orderLight 71 = .ok (.iload_n 2, 1) := by decide +kernel
theorem dX6_orderLight_72 : decode cX6_orderLight 72 = .ok (.invokevirtual 179, 3) := by decide +kernel
theorem dX6_orderLight_75 : decode cX6_orderLight 75 = .ok (.lreturn, 1) := by decide +kernel
theorem dX6_matrix_0 : decode cX6_matrix 0 = .ok (.iload_n 1, 1) := by decide +kernel
theorem dX6_matrix_1 : decode cX6_matrix 1 = .ok (.ifCond .lt 26, 3) := by decide +kernel
theorem dX6_matrix_4 : decode cX6_matrix 4 = .ok (.iload_n 1, 1) := by decide +kernel
theorem dX6_matrix_5 : decode cX6_matrix 5 = .ok (.iconst 3, 1) := by decide +kernel
theorem dX6_matrix_6 : decode cX6_matrix 6 = .ok (.if_icmp .gt 21, 3) := by decide +kernel
theorem dX6_matrix_9 : decode cX6_matrix 9 = .ok (.iload_n 2, 1) := by decide +kernel
theorem dX6_matrix_10 : decode cX6_matrix 10 = .ok (.ifCond .lt 17, 3) := by decide +kernel
theorem dX6_matrix_13 : decode cX6_matrix 13 = .ok (.iload_n 2, 1) := by decide +kernel
theorem dX6_matrix_14 : decode cX6_matrix 14 = .ok (.iconst 3, 1) := by decide +kernel
theorem dX6_matrix_15 : decode cX6_matrix 15 = .ok (.if_icmp .gt 12, 3) := by decide +kernel
theorem dX6_matrix_18 : decode cX6_matrix 18 = .ok (.iload_n 3, 1) := by decide +kernel
theorem dX6_matrix_19 : decode cX6_matrix 19 = .ok (.ifCond .lt 8, 3) := by decide +kernel
theorem dX6_matrix_22 : decode cX6_matrix 22 = .ok (.iload_n 3, 1) := by decide +kernel
theorem dX6_matrix_23 : decode cX6_matrix 23 = .ok (.iconst 1, 1) := by decide +kernel
theorem dX6_matrix_24 : decode cX6_matrix 24 = .ok (.if_icmp .le 7, 3) := by decide +kernel
theorem dX6_matrix_27 : decode cX6_matrix 27 = .ok (.ldc2_w 174, 3) := by decide +kernel
theorem dX6_matrix_30 : decode cX6_matrix 30 = .ok (.lreturn, 1) := by decide +kernel
theorem dX6_matrix_31 : decode cX6_matrix 31 = .ok (.aload_n 0, 1) := by decide +kernel
theorem dX6_matrix_32 : decode cX6_matrix 32 = .ok (.getfield 68, 3) := by decide +kernel
theorem dX6_matrix_35 : decode cX6_matrix 35 = .ok (.iload_n 2, 1) := by decide +kernel
theorem dX6_matrix_36 : decode cX6_matrix 36 = .ok (.invokevirtual 239, 3) := by decide +kernel
theorem dX6_matrix_39 : decode cX6_matrix 39 = .ok (.aload_n 0, 1) := by decide +kernel
theorem dX6_matrix_40 : decode cX6_matrix 40 = .ok (.getfield 12, 3) := by decide +kernel
theorem dX6_matrix_43 : decode cX6_matrix 43 = .ok (.aload_n 0, 1) := by decide +kernel
theorem dX6_matrix_44 : decode cX6_matrix 44 = .ok (.getfield 68, 3) := by decide +kernel
theorem dX6_matrix_47 : decode cX6_matrix 47 = .ok (.iconst 0, 1) := by decide +kernel
theorem dX6_matrix_48 : decode cX6_matrix 48 = .ok (.aload_n 0, 1) := by decide +kernel
theorem dX6_matrix_49 : decode cX6_matrix 49 = .ok (.getfield 12, 3) := by decide +kernel
theorem dX6_matrix_52 : decode cX6_matrix 52 = .ok (.getfield 140, 3) := by decide +kernel
theorem dX6_matrix_55 : decode cX6_matrix 55 = .ok (.invokevirtual 242, 3) := by decide +kernel
theorem dX6_matrix_58 : decode cX6_matrix 58 = .ok (.aload_n 0, 1) := by decide +kernel
theorem dX6_matrix_59 : decode cX6_matrix 59 = .ok (.getfield 68, 3) := by decide +kernel
theorem dX6_matrix_62 : decode cX6_matrix 62 = .ok (.aload_n 0, 1) := by decide +kernel
theorem dX6_matrix_63 : decode cX6_matrix 63 = .ok (.getfield 68, 3) := by decide +kernel
theorem dX6_matrix_66 : decode cX6_matrix 66 = .ok (.iload_n 1, 1) := by decide +kernel
theorem dX6_matrix_67 : decode cX6_matrix 67 = .ok (.invokevirtual 179, 3) := by decide +kernel
theorem dX6_matrix_70 : decode cX6_matrix 70 = .ok (.lconst 0, 1) := by decide +kernel
theorem dX6_matrix_71 : decode cX6_matrix 71 = .ok (.lconst 0, 1) := by decide +kernel
theorem dX6_matrix_72 : decode cX6_matrix 72 = .ok (.lconst 0, 1) := by decide +kernel
theorem dX6_matrix_73 : decode cX6_matrix 73 = .ok (.aload_n 0, 1) := by decide +kernel
theorem dX6_matrix_74 : decode cX6_matrix 74 = .ok (.getfield 68, 3) := by decide +kernel
theorem dX6_matrix_77 : decode cX6_matrix 77 = .ok (.getfield 246, 3) := by decide +kernel
theorem dX6_matrix_80 : decode cX6_matrix 80 = .ok (.invokevirtual 78, 3) := by decide +kernel
theorem dX6_matrix_83 : decode cX6_matrix 83 = .ok (.aload_n 0, 1) := by decide +kernel
theorem dX6_matrix_84 : decode cX6_matrix 84 = .ok (.getfield 68, 3) := by decide +kernel
theorem dX6_matrix_87 : decode cX6_matrix 87 = .ok (.invokevirtual 249, 3) := by decide +kernel
theorem dX6_matrix_90 : decode cX6_matrix 90 = .ok (.iload_n 3, 1) := by decide +kernel
theorem dX6_matrix_91 : decode cX6_matrix 91 = .ok (.ifCond .ne 13, 3) := by decide +kernel
theorem dX6_matrix_94 : decode cX6_matrix 94 = .ok (.aload_n 0, 1) := by decide +kernel
theorem dX6_matrix_95 : decode cX6_matrix 95 = .ok (.getfield 68, 3) := by decide +kernel
theorem dX6_matrix_98 : decode cX6_matrix 98 = .ok (.getfield 199, 3) := by decide +kernel
theorem dX6_matrix_101 : decode cX6_matrix 101 = .ok (.goto 11, 3) := by decide +kernel
theorem dX6_matrix_104 : decode cX6_matrix 104 = .ok (.aload_n 0, 1) := by decide +kernel
theorem dX6_matrix_105 : decode cX6_matrix 105 = .ok (.getfield 68, 3) := by decide +kernel
theorem dX6_matrix_108 : decode cX6_matrix 108 = .ok (.getfield 246, 3) := by decide +kernel
theorem dX6_matrix_111 : decode cX6_matrix 111 = .ok (.i2l, 1) := by decide +kernel
theorem dX6_matrix_112 : decode cX6_matrix 112 = .ok (.lreturn, 1) := by decide +kernel
theorem dX6_trade_0 : decode cX6_trade 0 = .ok (.aload_n 0, 1) := by decide +kernel
theorem dX6_trade_1 : decode cX6_trade 1 = .ok (.getfield 12, 3) := by decide +kernel
theorem dX6_trade_4 : decode cX6_trade 4 = .ok (.iload_n 1, 1) := by decide +kernel
theorem dX6_trade_5 : decode cX6_trade 5 = .ok (.invokevirtual 111, 3) := by decide +kernel
theorem dX6_trade_8 : decode cX6_trade 8 = .ok (.ifCond .eq 14, 3) := by decide +kernel
theorem dX6_trade_11 : decode cX6_trade 11 = .ok (.aload_n 0, 1) := by decide +kernel
theorem dX6_trade_12 : decode cX6_trade 12 = .ok (.getfield 12, 3) := by decide +kernel
theorem dX6_trade_15 : decode cX6_trade 15 = .ok (.iload_n 2, 1) := by decide +kernel
theorem dX6_trade_16 : decode cX6_trade 16 = .ok (.invokevirtual 111, 3) := by decide +kernel
theorem dX6_trade_19 : decode cX6_trade 19 = .ok (.ifCond .ne 5, 3) := by decide +kernel
theorem dX6_trade_22 : decode cX6_trade 22 = .ok (.iconst (-1), 1) := by decide +kernel
theorem dX6_trade_23 : decode cX6_trade 23 = .ok (.ireturn, 1) := by decide +kernel
theorem dX6_trade_24 : decode cX6_trade 24 = .ok (.iconst 0, 1) := by decide +kernel
theorem dX6_trade_25 : decode cX6_trade 25 = .ok (.istore_n 3, 1) := by decide +kernel
theorem dX6_trade_26 : decode cX6_trade 26 = .ok (.iload_n 3, 1) := by decide +kernel
theorem dX6_trade_27 : decode cX6_trade 27 = .ok (.iconst 4, 1) := by decide +kernel
theorem dX6_trade_28 : decode cX6_trade 28 = .ok (.if_icmp .ge 105, 3) := by decide +kernel
theorem dX6_trade_31 : decode cX6_trade 31 = .ok (.aload_n 0, 1) := by decide +kernel
theorem dX6_trade_32 : decode cX6_trade 32 = .ok (.getfield 68, 3) := by decide +kernel
theorem dX6_trade_35 : decode cX6_trade 35 = .ok (.iload_n 3, 1) := by decide +kernel
theorem dX6_trade_36 : decode cX6_trade 36 = .ok (.invokevirtual 239, 3) := by decide +kernel
theorem dX6_trade_39 : decode cX6_trade 39 = .ok (.aload_n 0, 1) := by decide +kernel
theorem dX6_trade_40 : decode cX6_trade 40 = .ok (.getfield 68, 3) := by decide +kernel
theorem dX6_trade_43 : decode cX6_trade 43 = .ok (.aload_n 0, 1) := by decide +kernel
theorem dX6_trade_44 : decode cX6_trade 44 = .ok (.getfield 12, 3) := by decide +kernel
theorem dX6_trade_47 : decode cX6_trade 47 = .ok (.getfield 118, 3) := by decide +kernel
theorem dX6_trade_50 : decode cX6_trade 50 = .ok (.iload_n 1, 1) := by decide +kernel
theorem dX6_trade_51 : decode cX6_trade 51 = .ok (.iaload, 1) := by decide +kernel
theorem dX6_trade_52 : decode cX6_trade 52 = .ok (.invokevirtual 252, 3) := by decide +kernel
theorem dX6_trade_55 : decode cX6_trade 55 = .ok (.aload_n 0, 1) := by decide +kernel
theorem dX6_trade_56 : decode cX6_trade 56 = .ok (.getfield 68, 3) := by decide +kernel
theorem dX6_trade_59 : decode cX6_trade 59 = .ok (.aload_n 0, 1) := by decide +kernel
theorem dX6_trade_60 : decode cX6_trade 60 = .ok (.getfield 12, 3) := by decide +kernel
theorem dX6_trade_63 : decode cX6_trade 63 = .ok (.getfield 118, 3) := by decide +kernel
theorem dX6_trade_66 : decode cX6_trade 66 = .ok (.iload_n 2, 1) := by decide +kernel
theorem dX6_trade_67 : decode cX6_trade 67 = .ok (.iaload, 1) := by decide +kernel
theorem dX6_trade_68 : decode cX6_trade 68 = .ok (.invokevirtual 252, 3) := by decide +kernel
theorem dX6_trade_71 : decode cX6_trade 71 = .ok (.aload_n 0, 1) := by decide +kernel
theorem dX6_trade_72 : decode cX6_trade 72 = .ok (.getfield 72, 3) := by decide +kernel
theorem dX6_trade_75 : decode cX6_trade 75 = .ok (.iload_n 3, 1) := by decide +kernel
theorem dX6_trade_76 : decode cX6_trade 76 = .ok (.invokevirtual 239, 3) := by decide +kernel
theorem dX6_trade_79 : decode cX6_trade 79 = .ok (.aload_n 0, 1) := by decide +kernel
theorem dX6_trade_80 : decode cX6_trade 80 = .ok (.getfield 72, 3) := by decide +kernel
theorem dX6_trade_83 : decode cX6_trade 83 = .ok (.aload_n 0, 1) := by decide +kernel
theorem dX6_trade_84 : decode cX6_trade 84 = .ok (.getfield 12, 3) := by decide +kernel
theorem dX6_trade_87 : decode cX6_trade 87 = .ok (.getfield 118, 3) := by decide +kernel
theorem dX6_trade_90 : decode cX6_trade 90 = .ok (.iload_n 2, 1) := by decide +kernel
theorem dX6_trade_91 : decode cX6_trade 91 = .ok (.iaload, 1) := by decide +kernel
theorem dX6_trade_92 : decode cX6_trade 92 = .ok (.invokevirtual 252, 3) := by decide +kernel
theorem dX6_trade_95 : decode cX6_trade 95 = .ok (.aload_n 0, 1) := by decide +kernel
theorem dX6_trade_96 : decode cX6_trade 96 = .ok (.getfield 72, 3) := by decide +kernel
theorem dX6_trade_99 : decode cX6_trade 99 = .ok (.aload_n 0, 1) := by decide +kernel
theorem dX6_trade_100 : decode cX6_trade 100 = .ok (.getfield 12, 3) := by decide +kernel
theorem dX6_trade_103 : decode cX6_trade 103 = .ok (.getfield 118, 3) := by decide +kernel
theorem dX6_trade_106 : decode cX6_trade 106 = .ok (.iload_n 1, 1) := by decide +kernel
theorem dX6_trade_107 : decode cX6_trade 107 = .ok (.iaload, 1) := by decide +kernel
theorem dX6_trade_108 : decode cX6_trade 108 = .ok (.invokevirtual 252, 3) := by decide +kernel
theorem dX6_trade_111 : decode cX6_trade 111 = .ok (.aload_n 0, 1) := by decide +kernel
theorem dX6_trade_112 : decode cX6_trade 112 = .ok (.getfield 68, 3) := by decide +kernel
theorem dX6_trade_115 : decode cX6_trade 115 = .ok (.aload_n 0, 1) := by decide +kernel
theorem dX6_trade_116 : decode cX6_trade 116 = .ok (.getfield 72, 3) := by decide +kernel
theorem dX6_trade_119 : decode cX6_trade 119 = .ok (.invokevirtual 255, 3) := by decide +kernel
theorem dX6_trade_122 : decode cX6_trade 122 = .ok (.ifCond .ne 5, 3) := by decide +kernel
theorem dX6_trade_125 : decode cX6_trade 125 = .ok (.iconst 0, 1) := by decide +kernel
theorem dX6_trade_126 : decode cX6_trade 126 = .ok (.ireturn, 1) := by decide +kernel
theorem dX6_trade_127 : decode cX6_trade 127 = .ok (.iinc 3 1, 3) := by decide +kernel
theorem dX6_trade_130 : decode cX6_trade 130 = .ok (.goto (-104), 3) := by decide +kernel
theorem dX6_trade_133 : decode cX6_trade 133 = .ok (.iconst 1, 1) := by decide +kernel
theorem dX6_trade_134 : decode cX6_trade 134 = .ok (.ireturn, 1) := by decide +kernel
theorem dX6_angle_0 : decode cX6_angle 0 = .ok (.aload_n 0, 1) := by decide +kernel
theorem dX6_angle_1 : decode cX6_angle 1 = .ok (.getfield 12, 3) := by decide +kernel
theorem dX6_angle_4 : decode cX6_angle 4 = .ok (.iload_n 1, 1) := by decide +kernel
theorem dX6_angle_5 : decode cX6_angle 5 = .ok (.invokevirtual 111, 3) := by decide +kernel
theorem dX6_angle_8 : decode cX6_angle 8 = .ok (.ifCond .eq 12, 3) := by decide +kernel
theorem dX6_angle_11 : decode cX6_angle 11 = .ok (.iload_n 2, 1) := by decide +kernel
theorem dX6_angle_12 : decode cX6_angle 12 = .ok (.ifCond .lt 8, 3) := by decide +kernel
theorem dX6_angle_15 : decode cX6_angle 15 = .ok (.iload_n 2, 1) := by decide +kernel
theorem dX6_angle_16 : decode cX6_angle 16 = .ok (.iconst 2, 1) := by decide +kernel
theorem dX6_angle_17 : decode cX6_angle 17 = .ok (.if_icmp .le 5, 3) := by decide +kernel
theorem dX6_angle_20 : decode cX6_angle 20 = .ok (.iconst (-1), 1) := by decide +kernel
theorem dX6_angle_21 : decode cX6_angle 21 = .ok (.ireturn, 1) := by decide +kernel
theorem dX6_angle_22 : decode cX6_angle 22 = .ok (.aload_n 0, 1) := by decide +kernel
theorem dX6_angle_23 : decode cX6_angle 23 = .ok (.iload_n 1, 1) := by decide +kernel
theorem dX6_angle_24 : decode cX6_angle 24 = .ok (.invokevirtual 176, 3) := by decide +kernel
theorem dX6_angle_27 : decode cX6_angle 27 = .ok (.aload_n 0, 1) := by decide +kernel
theorem dX6_angle_28 : decode cX6_angle 28 = .ok (.getfield 72, 3) := by decide +kernel
theorem dX6_angle_31 : decode cX6_angle 31 = .ok (.aload_n 0, 1) := by decide +kernel
theorem dX6_angle_32 : decode cX6_angle 32 = .ok (.getfield 68, 3) := by decide +kernel
theorem dX6_angle_35 : decode cX6_angle 35 = .ok (.invokevirtual 89, 3) := by decide +kernel
theorem dX6_angle_38 : decode cX6_angle 38 = .ok (.aload_n 0, 1) := by decide +kernel
theorem dX6_angle_39 : decode cX6_angle 39 = .ok (.getfield 47, 3) := by decide +kernel
theorem dX6_angle_42 : decode cX6_angle 42 = .ok (.invokevirtual 259, 3) := by decide +kernel
theorem dX6_angle_45 : decode cX6_angle 45 = .ok (.iconst 0, 1) := by decide +kernel
theorem dX6_angle_46 : decode cX6_angle 46 = .ok (.istore_n 3, 1) := by decide +kernel
theorem dX6_angle_47 : decode cX6_angle 47 = .ok (.iload_n 3, 1) := by decide +kernel
theorem dX6_angle_48 : decode cX6_angle 48 = .ok (.iconst 4, 1) := by decide +kernel
theorem dX6_angle_49 : decode cX6_angle 49 = .ok (.if_icmp .ge 39, 3) := by decide +kernel
theorem dX6_angle_52 : decode cX6_angle 52 = .ok (.aload_n 0, 1) := by decide +kernel
theorem dX6_angle_53 : decode cX6_angle 53 = .ok (.iload_n 1, 1) := by decide +kernel
theorem dX6_angle_54 : decode cX6_angle 54 = .ok (.aload_n 0, 1) := by decide +kernel
theorem dX6_angle_55 : decode cX6_angle 55 = .ok (.getfield 12, 3) := by decide +kernel
theorem dX6_angle_58 : decode cX6_angle 58 = .ok (.getfield 118, 3) := by decide +kernel
theorem dX6_angle_61 : decode cX6_angle 61 = .ok (.iload_n 1, 1) := by decide +kernel
theorem dX6_angle_62 : decode cX6_angle 62 = .ok (.iaload, 1) := by decide +kernel
theorem dX6_angle_63 : decode cX6_angle 63 = .ok (.iload_n 3, 1) := by decide +kernel
theorem dX6_angle_64 : decode cX6_angle 64 = .ok (.invokestatic 129, 3) := by decide +kernel
theorem dX6_angle_67 : decode cX6_angle 67 = .ok (.invokevirtual 262, 3) := by decide +kernel
theorem dX6_angle_70 : decode cX6_angle 70 = .ok (.aload_n 0, 1) := by decide +kernel
theorem dX6_angle_71 : decode cX6_angle 71 = .ok (.getfield 47, 3) := by decide +kernel
theorem dX6_angle_74 : decode cX6_angle 74 = .ok (.aload_n 0, 1) := by decide +kernel
theorem dX6_angle_75 : decode cX6_angle 75 = .ok (.getfield 68, 3) := by decide +kernel
theorem dX6_angle_78 : decode cX6_angle 78 = .ok (.iload_n 3, 1) := by decide +kernel
theorem dX6_angle_79 : decode cX6_angle 79 = .ok (.invokevirtual 265, 3) := by decide +kernel
theorem dX6_angle_82 : decode cX6_angle 82 = .ok (.iinc 3 1, 3) := by decide +kernel
theorem dX6_angle_85 : decode cX6_angle 85 = .ok (.goto (-38), 3) := by decide +kernel
theorem dX6_angle_88 : decode cX6_angle 88 = .ok (.iload_n 2, 1) := by decide +kernel
theorem dX6_angle_89 : decode cX6_angle 89 = .ok (.ifCond .ne 11, 3) := by decide +kernel
theorem dX6_angle_92 : decode cX6_angle 92 = .ok (.aload_n 0, 1) := by decide +kernel
theorem dX6_angle_93 : decode cX6_angle 93 = .ok (.getfield 47, 3) := by decide +kernel
theorem dX6_angle_96 : decode cX6_angle 96 = .ok (.getfield 223, 3) := by decide +kernel
theorem dX6_angle_99 : decode cX6_angle 99 = .ok (.ireturn, 1) := by decide +kernel
theorem dX6_angle_100 : decode cX6_angle 100 = .ok (.iload_n 2, 1) := by decide +kernel
theorem dX6_angle_101 : decode cX6_angle 101 = .ok (.iconst 1, 1) := by decide +kernel
theorem dX6_angle_102 : decode cX6_angle 102 = .ok (.if_icmp .ne 13, 3) := by decide +kernel
theorem dX6_angle_105 : decode cX6_angle 105 = .ok (.aload_n 0, 1) := by decide +kernel
theorem dX6_angle_106 : decode cX6_angle 106 = .ok (.getfield 47, 3) := by decide +kernel
theorem dX6_angle_109 : decode cX6_angle 109 = .ok (.getfield 220, 3) := by decide +kernel
theorem dX6_angle_112 : decode cX6_angle 112 = .ok (.goto 10, 3) := by decide +kernel
theorem dX6_angle_115 : decode cX6_angle 115 = .ok (.aload_n 0, 1) := by decide +kernel
theorem dX6_angle_116 : decode cX6_angle 116 = .ok (.getfield 47, 3) := by decide +kernel
theorem dX6_angle_119 : decode cX6_angle 119 = .ok (.getfield 226, 3) := by decide +kernel
theorem dX6_angle_122 : decode cX6_angle 122 = .ok (.ireturn, 1) := by decide +kernel
theorem dX6_without_0 : decode cX6_without 0 = .ok (.aload_n 0, 1) := by decide +kernel
theorem dX6_without_1 : decode cX6_without 1 = .ok (.getfield 12, 3) := by decide +kernel
theorem dX6_without_4 : decode cX6_without 4 = .ok (.iload_n 1, 1) := by decide +kernel
theorem dX6_without_5 : decode cX6_without 5 = .ok (.invokevirtual 111, 3) := by decide +kernel
theorem dX6_without_8 : decode cX6_without 8 = .ok (.ifCond .eq 10, 3) := by decide +kernel
theorem dX6_without_11 : decode cX6_without 11 = .ok (.iload_n 2, 1) := by decide +kernel
theorem dX6_without_12 : decode cX6_without 12 = .ok (.invokestatic 183, 3) := by decide +kernel
theorem dX6_without_15 : decode cX6_without 15 = .ok (.ifCond .ne 7, 3) := by decide +kernel
theorem dX6_without_18 : decode cX6_without 18 = .ok (.ldc2_w 174, 3) := by decide +kernel
theorem dX6_without_21 : decode cX6_without 21 = .ok (.lreturn, 1) := by decide +kernel
theorem dX6_without_22 : decode cX6_without 22 = .ok (.aload_n 0, 1) := by decide +kernel
theorem dX6_without_23 : decode cX6_without 23 = .ok (.iload_n 1, 1) := by decide +kernel
theorem dX6_without_24 : decode cX6_without 24 = .ok (.invokevirtual 176, 3) := by decide +kernel
theorem dX6_without_27 : decode cX6_without 27 = .ok (.aload_n 0, 1) := by decide +kernel
theorem dX6_without_28 : decode cX6_without 28 = .ok (.getfield 12, 3) := by decide +kernel
theorem dX6_without_31 : decode cX6_without 31 = .ok (.aload_n 0, 1) := by decide +kernel
theorem dX6_without_32 : decode cX6_without 32 = .ok (.getfield 68, 3) := by decide +kernel
theorem dX6_without_35 : decode cX6_without 35 = .ok (.iload_n 1, 1) := by decide +kernel
theorem dX6_without_36 : decode cX6_without 36 = .ok (.iconst 1, 1) := by decide +kernel
theorem dX6_without_37 : decode cX6_without 37 = .ok (.iadd, 1) := by decide +kernel
theorem dX6_without_38 : decode cX6_without 38 = .ok (.aload_n 0, 1) := by decide +kernel
theorem dX6_without_39 : decode cX6_without 39 = .ok (.getfield 12, 3) := by decide +kernel
theorem dX6_without_42 : decode cX6_without 42 = .ok (.getfield 140, 3) := by decide +kernel
theorem dX6_without_45 : decode cX6_without 45 = .ok (.invokevirtual 242, 3) := by decide +kernel
theorem dX6_without_48 : decode cX6_without 48 = .ok (.aload_n 0, 1) := by decide +kernel
theorem dX6_without_49 : decode cX6_without 49 = .ok (.iload_n 2, 1) := by decide +kernel
theorem dX6_without_50 : decode cX6_without 50 = .ok (.invokevirtual 186, 3) := by decide +kernel
theorem dX6_without_53 : decode cX6_without 53 = .ok (.lreturn, 1) := by decide +kernel
theorem dX6_darkens_0 : decode cX6_darkens 0 = .ok (.aload_n 0, 1) := by decide +kernel
theorem dX6_darkens_1 : decode cX6_darkens 1 = .ok (.getfield 68, 3) := by decide +kernel
theorem dX6_darkens_4 : decode cX6_darkens 4 = .ok (.aload_n 0, 1) := by decide +kernel
theorem dX6_darkens_5 : decode cX6_darkens 5 = .ok (.getfield 12, 3) := by decide +kernel
theorem dX6_darkens_8 : decode cX6_darkens 8 = .ok (.getfield 86, 3) := by decide +kernel
theorem dX6_darkens_11 : decode cX6_darkens 11 = .ok (.invokevirtual 89, 3) := by decide +kernel
theorem dX6_darkens_14 : decode cX6_darkens 14 = .ok (.iconst 0, 1) := by decide +kernel
theorem dX6_darkens_15 : decode cX6_darkens 15 = .ok (.istore_n 1, 1) := by decide +kernel
theorem dX6_darkens_16 : decode cX6_darkens 16 = .ok (.iload_n 1, 1) := by decide +kernel
theorem dX6_darkens_17 : decode cX6_darkens 17 = .ok (.aload_n 0, 1) := by decide +kernel
theorem dX6_darkens_18 : decode cX6_darkens 18 = .ok (.getfield 12, 3) := by decide +kernel
theorem dX6_darkens_21 : decode cX6_darkens 21 = .ok (.getfield 140, 3) := by decide +kernel
theorem dX6_darkens_24 : decode cX6_darkens 24 = .ok (.if_icmp .gt 36, 3) := by decide +kernel
theorem dX6_darkens_27 : decode cX6_darkens 27 = .ok (.aload_n 0, 1) := by decide +kernel
theorem dX6_darkens_28 : decode cX6_darkens 28 = .ok (.getfield 68, 3) := by decide +kernel
theorem dX6_darkens_31 : decode cX6_darkens 31 = .ok (.invokevirtual 189, 3) := by decide +kernel
theorem dX6_darkens_34 : decode cX6_darkens 34 = .ok (.ifCond .eq 5, 3) := by decide +kernel
theorem dX6_darkens_37 : decode cX6_darkens 37 = .ok (.iload_n 1, 1) := by decide +kernel
theorem dX6_darkens_38 : decode cX6_darkens 38 = .ok (.ireturn, 1) := by decide +kernel
theorem dX6_darkens_39 : decode cX6_darkens 39 = .ok (.aload_n 0, 1) := by decide +kernel
theorem dX6_darkens_40 : decode cX6_darkens 40 = .ok (.getfield 12, 3) := by decide +kernel
theorem dX6_darkens_43 : decode cX6_darkens 43 = .ok (.aload_n 0, 1) := by decide +kernel
theorem dX6_darkens_44 : decode cX6_darkens 44 = .ok (.getfield 68, 3) := by decide +kernel
theorem dX6_darkens_47 : decode cX6_darkens 47 = .ok (.iload_n 1, 1) := by decide +kernel
theorem dX6_darkens_48 : decode cX6_darkens 48 = .ok (.iload_n 1, 1) := by decide +kernel
theorem dX6_darkens_49 : decode cX6_darkens 49 = .ok (.iconst 1, 1) := by decide +kernel
theorem dX6_darkens_50 : decode cX6_darkens 50 = .ok (.iadd, 1) := by decide +kernel
theorem dX6_darkens_51 : decode cX6_darkens 51 = .ok (.invokevirtual 242, 3) := by decide +kernel
theorem dX6_darkens_54 : decode cX6_darkens 54 = .ok (.iinc 1 1, 3) := by decide +kernel
theorem dX6_darkens_57 : decode cX6_darkens 57 = .ok (.goto (-41), 3) := by decide +kernel
theorem dX6_darkens_60 : decode cX6_darkens 60 = .ok (.bipush (-5), 2) := by decide +kernel
theorem dX6_darkens_62 : decode cX6_darkens 62 = .ok (.ireturn, 1) := by decide +kernel
theorem dX6_crossed_0 : decode cX6_crossed 0 = .ok (.iload_n 1, 1) := by decide +kernel
theorem dX6_crossed_1 : decode cX6_crossed 1 = .ok (.ifCond .lt 8, 3) := by decide +kernel
theorem dX6_crossed_4 : decode cX6_crossed 4 = .ok (.iload_n 1, 1) := by decide +kernel
theorem dX6_crossed_5 : decode cX6_crossed 5 = .ok (.iconst 1, 1) := by decide +kernel
theorem dX6_crossed_6 : decode cX6_crossed 6 = .ok (.if_icmp .le 5, 3) := by decide +kernel
theorem dX6_crossed_9 : decode cX6_crossed 9 = .ok (.iconst (-1), 1) := by decide +kernel
theorem dX6_crossed_10 : decode cX6_crossed 10 = .ok (.ireturn, 1) := by decide +kernel
theorem dX6_crossed_11 : decode cX6_crossed 11 = .ok (.iconst 0, 1) := by decide +kernel
theorem dX6_crossed_12 : decode cX6_crossed 12 = .ok (.istore_n 2, 1) := by decide +kernel
theorem dX6_crossed_13 : decode cX6_crossed 13 = .ok (.bipush (-5), 2) := by decide +kernel
theorem dX6_crossed_15 : decode cX6_crossed 15 = .ok (.istore_n 3, 1) := by decide +kernel
theorem dX6_crossed_16 : decode cX6_crossed 16 = .ok (.iconst 0, 1) := by decide +kernel
theorem dX6_crossed_17 : decode cX6_crossed 17 = .ok (.istore 4, 2) := by decide +kernel
theorem dX6_crossed_19 : decode cX6_crossed 19 = .ok (.iload 4, 2) := by decide +kernel
theorem dX6_crossed_21 : decode cX6_crossed 21 = .ok (.aload_n 0, 1) := by decide +kernel
theorem dX6_crossed_22 : decode cX6_crossed 22 = .ok (.getfield 12, 3) := by decide +kernel
theorem dX6_crossed_25 : decode cX6_crossed 25 = .ok (.getfield 140, 3) := by decide +kernel
theorem dX6_crossed_28 : decode cX6_crossed 28 = .ok (.if_icmp .ge 80, 3) := by decide +kernel
theorem dX6_crossed_31 : decode cX6_crossed 31 = .ok (.iload 4, 2) := by decide +kernel
theorem dX6_crossed_33 : decode cX6_crossed 33 = .ok (.iconst 1, 1) := by decide +kernel
theorem dX6_crossed_34 : decode cX6_crossed 34 = .ok (.iadd, 1) := by decide +kernel
theorem dX6_crossed_35 : decode cX6_crossed 35 = .ok (.istore 5, 2) := by decide +kernel
theorem dX6_crossed_37 : decode cX6_crossed 37 = .ok (.iload 5, 2) := by decide +kernel
theorem dX6_crossed_39 : decode cX6_crossed 39 = .ok (.aload_n 0, 1) := by decide +kernel
theorem dX6_crossed_40 : decode cX6_crossed 40 = .ok (.getfield 12, 3) := by decide +kernel
theorem dX6_crossed_43 : decode cX6_crossed 43 = .ok (.getfield 140, 3) := by decide +kernel
theorem dX6_crossed_46 : decode cX6_crossed 46 = .ok (.if_icmp .ge 56, 3) := by decide +kernel
theorem dX6_crossed_49 : decode cX6_crossed 49 = .ok (.aload_n 0, 1) := by decide +kernel
theorem dX6_crossed_50 : decode cX6_crossed 50 = .ok (.aload_n 0, 1) := by decide +kernel
theorem dX6_crossed_51 : decode cX6_crossed 51 = .ok (.getfield 12, 3) := by decide +kernel
theorem dX6_crossed_54 : decode cX6_crossed 54 = .ok (.getfield 118, 3) := by decide +kernel
theorem dX6_crossed_57 : decode cX6_crossed 57 = .ok (.iload 4, 2) := by decide +kernel
theorem dX6_crossed_59 : decode cX6_crossed 59 = .ok (.iaload, 1) := by decide +kernel
theorem dX6_crossed_60 : decode cX6_crossed 60 = .ok (.aload_n 0, 1) := by decide +kernel
theorem dX6_crossed_61 : decode cX6_crossed 61 = .ok (.getfield 12, 3) := by decide +kernel
theorem dX6_crossed_64 : decode cX6_crossed 64 = .ok (.getfield 118, 3) := by decide +kernel
theorem dX6_crossed_67 : decode cX6_crossed 67 = .ok (.iload 5, 2) := by decide +kernel
theorem dX6_crossed_69 : decode cX6_crossed 69 = .ok (.iaload, 1) := by decide +kernel
theorem dX6_crossed_70 : decode cX6_crossed 70 = .ok (.invokevirtual 269, 3) := by decide +kernel
theorem dX6_crossed_73 : decode cX6_crossed 73 = .ok (.ifCond .eq 23, 3) := by decide +kernel
theorem dX6_crossed_76 : decode cX6_crossed 76 = .ok (.iload_n 2, 1) := by decide +kernel
theorem dX6_crossed_77 : decode cX6_crossed 77 = .ok (.ifCond .ne 14, 3) := by decide +kernel
theorem dX6_crossed_80 : decode cX6_crossed 80 = .ok (.bipush 10, 2) := by decide +kernel
theorem dX6_crossed_82 : decode cX6_crossed 82 = .ok (.iload 4, 2) := by decide +kernel
theorem dX6_crossed_84 : decode cX6_crossed 84 = .ok (.imul, 1) := by decide +kernel
theorem dX6_crossed_85 : decode cX6_crossed 85 = .ok (.iload 5, 2) := by decide +kernel
theorem dX6_crossed_87 : decode cX6_crossed 87 = .ok (.iadd, 1) := by decide +kernel
theorem dX6_crossed_88 : decode cX6_crossed 88 = .ok (.goto 4, 3) := by decide +kernel
theorem dX6_crossed_91 : decode cX6_crossed 91 = .ok (.iload_n 3, 1) := by decide +kernel
theorem dX6_crossed_92 : decode cX6_crossed 92 = .ok (.istore_n 3, 1) := by decide +kernel
theorem dX6_crossed_93 : decode cX6_crossed 93 = .ok (.iinc 2 1, 3) := by decide +kernel
theorem dX6_crossed_96 : decode cX6_crossed 96 = .ok (.iinc 5 1, 3) := by decide +kernel
theorem dX6_crossed_99 : decode cX6_crossed 99 = .ok (.goto (-62), 3) := by decide +kernel
theorem dX6_crossed_102 : decode cX6_crossed 102 = .ok (.iinc 4 1, 3) := by decide +kernel
theorem dX6_crossed_105 : decode cX6_crossed 105 = .ok (.goto (-86), 3) := by decide +kernel
theorem dX6_crossed_108 : decode cX6_crossed 108 = .ok (.iload_n 1, 1) := by decide +kernel
theorem dX6_crossed_109 : decode cX6_crossed 109 = .ok (.ifCond .ne 7, 3) := by decide +kernel
theorem dX6_crossed_112 : decode cX6_crossed 112 = .ok (.iload_n 2, 1) := by decide +kernel
theorem dX6_crossed_113 : decode cX6_crossed 113 = .ok (.goto 4, 3) := by decide +kernel
theorem dX6_crossed_116 : decode cX6_crossed 116 = .ok (.iload_n 3, 1) := by decide +kernel
theorem dX6_crossed_117 : decode cX6_crossed 117 = .ok (.ireturn, 1) := by decide +kernel
theorem dX6_tally_0 : decode cX6_tally 0 = .ok (.iload_n 1, 1) := by decide +kernel
theorem dX6_tally_1 : decode cX6_tally 1 = .ok (.ifCond .lt 8, 3) := by decide +kernel
theorem dX6_tally_4 : decode cX6_tally 4 = .ok (.iload_n 1, 1) := by decide +kernel
theorem dX6_tally_5 : decode cX6_tally 5 = .ok (.iconst 2, 1) := by decide +kernel
theorem dX6_tally_6 : decode cX6_tally 6 = .ok (.if_icmp .le 5, 3) := by decide +kernel
theorem dX6_tally_9 : decode cX6_tally 9 = .ok (.iconst (-1), 1) := by decide +kernel
theorem dX6_tally_10 : decode cX6_tally 10 = .ok (.ireturn, 1) := by decide +kernel
theorem dX6_tally_11 : decode cX6_tally 11 = .ok (.iconst 0, 1) := by decide +kernel
theorem dX6_tally_12 : decode cX6_tally 12 = .ok (.istore_n 2, 1) := by decide +kernel
theorem dX6_tally_13 : decode cX6_tally 13 = .ok (.bipush (-5), 2) := by decide +kernel
theorem dX6_tally_15 : decode cX6_tally 15 = .ok (.istore_n 3, 1) := by decide +kernel
theorem dX6_tally_16 : decode cX6_tally 16 = .ok (.iconst 0, 1) := by decide +kernel
theorem dX6_tally_17 : decode cX6_tally 17 = .ok (.istore 4, 2) := by decide +kernel
theorem dX6_tally_19 : decode cX6_tally 19 = .ok (.iconst 0, 1) := by decide +kernel
theorem dX6_tally_20 : decode cX6_tally 20 = .ok (.istore 5, 2) := by decide +kernel
theorem dX6_tally_22 : decode cX6_tally 22 = .ok (.iload 5, 2) := by decide +kernel
theorem dX6_tally_24 : decode cX6_tally 24 = .ok (.aload_n 0, 1) := by decide +kernel
theorem dX6_tally_25 : decode cX6_tally 25 = .ok (.getfield 12, 3) := by decide +kernel
theorem dX6_tally_28 : decode cX6_tally 28 = .ok (.getfield 140, 3) := by decide +kernel
theorem dX6_tally_31 : decode cX6_tally 31 = .ok (.if_icmp .ge 82, 3) := by decide +kernel
theorem dX6_tally_34 : decode cX6_tally 34 = .ok (.aload_n 0, 1) := by decide +kernel
theorem dX6_tally_35 : decode cX6_tally 35 = .ok (.getfield 12, 3) := by decide +kernel
theorem dX6_tally_38 : decode cX6_tally 38 = .ok (.aload_n 0, 1) := by decide +kernel
theorem dX6_tally_39 : decode cX6_tally 39 = .ok (.getfield 12, 3) := by decide +kernel
theorem dX6_tally_42 : decode cX6_tally 42 = .ok (.getfield 118, 3) := by decide +kernel
theorem dX6_tally_45 : decode cX6_tally 45 = .ok (.iload 5, 2) := by decide +kernel
theorem dX6_tally_47 : decode cX6_tally 47 = .ok (.iaload, 1) := by decide +kernel
theorem dX6_tally_48 : decode cX6_tally 48 = .ok (.aload_n 0, 1) := by decide +kernel
theorem dX6_tally_49 : decode cX6_tally 49 = .ok (.getfield 12, 3) := by decide +kernel
theorem dX6_tally_52 : decode cX6_tally 52 = .ok (.getfield 140, 3) := by decide +kernel
theorem dX6_tally_55 : decode cX6_tally 55 = .ok (.invokevirtual 273, 3) := by decide +kernel
theorem dX6_tally_58 : decode cX6_tally 58 = .ok (.istore 6, 2) := by decide +kernel
theorem dX6_tally_60 : decode cX6_tally 60 = .ok (.aload_n 0, 1) := by decide +kernel
theorem dX6_tally_61 : decode cX6_tally 61 = .ok (.getfield 12, 3) := by decide +kernel
theorem dX6_tally_64 : decode cX6_tally 64 = .ok (.aload_n 0, 1) := by decide +kernel
theorem dX6_tally_65 : decode cX6_tally 65 = .ok (.getfield 12, 3) := by decide +kernel
theorem dX6_tally_68 : decode cX6_tally 68 = .ok (.getfield 118, 3) := by decide +kernel
theorem dX6_tally_71 : decode cX6_tally 71 = .ok (.iload 5, 2) := by decide +kernel
theorem dX6_tally_73 : decode cX6_tally 73 = .ok (.iaload, 1) := by decide +kernel
theorem dX6_tally_74 : decode cX6_tally 74 = .ok (.iload 5, 2) := by decide +kernel
theorem dX6_tally_76 : decode cX6_tally 76 = .ok (.invokevirtual 273, 3) := by decide +kernel
theorem dX6_tally_79 : decode cX6_tally 79 = .ok (.ifCond .ne 6, 3) := by decide +kernel
theorem dX6_tally_82 : decode cX6_tally 82 = .ok (.iinc 2 1, 3) := by decide +kernel
theorem dX6_tally_85 : decode cX6_tally 85 = .ok (.iload 6, 2) := by decide +kernel
theorem dX6_tally_87 : decode cX6_tally 87 = .ok (.iload 4, 2) := by decide +kernel
theorem dX6_tally_89 : decode cX6_tally 89 = .ok (.if_icmp .le 18, 3) := by decide +kernel
theorem dX6_tally_92 : decode cX6_tally 92 = .ok (.iload 6, 2) := by decide +kernel
theorem dX6_tally_94 : decode cX6_tally 94 = .ok (.istore 4, 2) := by decide +kernel
theorem dX6_tally_96 : decode cX6_tally 96 = .ok (.aload_n 0, 1) := by decide +kernel
theorem dX6_tally_97 : decode cX6_tally 97 = .ok (.getfield 12, 3) := by decide +kernel
theorem dX6_tally_100 : decode cX6_tally 100 = .ok (.getfield 118, 3) := by decide +kernel
theorem dX6_tally_103 : decode cX6_tally 103 = .ok (.iload 5, 2) := by decide +kernel
theorem dX6_tally_105 : decode cX6_tally 105 = .ok (.iaload, 1) := by decide +kernel
theorem dX6_tally_106 : decode cX6_tally 106 = .ok (.istore_n 3, 1) := by decide +kernel
theorem dX6_tally_107 : decode cX6_tally 107 = .ok (.iinc 5 1, 3) := by decide +kernel
theorem dX6_tally_110 : decode cX6_tally 110 = .ok (.goto (-88), 3) := by decide +kernel
theorem dX6_tally_113 : decode cX6_tally 113 = .ok (.iload_n 1, 1) := by decide +kernel
theorem dX6_tally_114 : decode cX6_tally 114 = .ok (.ifCond .ne 5, 3) := by decide +kernel
theorem dX6_tally_117 : decode cX6_tally 117 = .ok (.iload_n 2, 1) := by decide +kernel
theorem dX6_tally_118 : decode cX6_tally 118 = .ok (.ireturn, 1) := by decide +kernel
theorem dX6_tally_119 : decode cX6_tally 119 = .ok (.iload_n 1, 1) := by decide +kernel
theorem dX6_tally_120 : decode cX6_tally 120 = .ok (.iconst 1, 1) := by decide +kernel
theorem dX6_tally_121 : decode cX6_tally 121 = .ok (.if_icmp .ne 7, 3) := by decide +kernel
theorem dX6_tally_124 : decode cX6_tally 124 = .ok (.iload_n 3, 1) := by decide +kernel
theorem dX6_tally_125 : decode cX6_tally 125 = .ok (.goto 5, 3) := by decide +kernel
theorem dX6_tally_128 : decode cX6_tally 128 = .ok (.iload 4, 2) := by decide +kernel
theorem dX6_tally_130 : decode cX6_tally 130 = .ok (.ireturn, 1) := by decide +kernel
theorem dX6_list_0 : decode cX6_list 0 = .ok (.iload_n 1, 1) := by decide +kernel
theorem dX6_list_1 : decode cX6_list 1 = .ok (.invokestatic 276, 3) := by decide +kernel
theorem dX6_list_4 : decode cX6_list 4 = .ok (.ifCond .ne 5, 3) := by decide +kernel
theorem dX6_list_7 : decode cX6_list 7 = .ok (.iconst (-1), 1) := by decide +kernel
theorem dX6_list_8 : decode cX6_list 8 = .ok (.ireturn, 1) := by decide +kernel
theorem dX6_list_9 : decode cX6_list 9 = .ok (.iload_n 2, 1) := by decide +kernel
theorem dX6_list_10 : decode cX6_list 10 = .ok (.bipush 12, 2) := by decide +kernel
theorem dX6_list_12 : decode cX6_list 12 = .ok (.if_icmp .le 6, 3) := by decide +kernel
theorem dX6_list_15 : decode cX6_list 15 = .ok (.bipush (-2), 2) := by decide +kernel
theorem dX6_list_17 : decode cX6_list 17 = .ok (.ireturn, 1) := by decide +kernel
theorem dX6_list_18 : decode cX6_list 18 = .ok (.iload_n 2, 1) := by decide +kernel
theorem dX6_list_19 : decode cX6_list 19 = .ok (.iconst (-1), 1) := by decide +kernel
theorem dX6_list_20 : decode cX6_list 20 = .ok (.if_icmp .ge 6, 3) := by decide +kernel
theorem dX6_list_23 : decode cX6_list 23 = .ok (.bipush (-14), 2) := by decide +kernel
theorem dX6_list_25 : decode cX6_list 25 = .ok (.ireturn, 1) := by decide +kernel
theorem dX6_list_26 : decode cX6_list 26 = .ok (.aload_n 0, 1) := by decide +kernel
theorem dX6_list_27 : decode cX6_list 27 = .ok (.iload_n 1, 1) := by decide +kernel
theorem dX6_list_28 : decode cX6_list 28 = .ok (.iload_n 2, 1) := by decide +kernel
theorem dX6_list_29 : decode cX6_list 29 = .ok (.ifCond .ge 8, 3) := by decide +kernel
theorem dX6_list_32 : decode cX6_list 32 = .ok (.bipush (-11), 2) := by decide +kernel
theorem dX6_list_34 : decode cX6_list 34 = .ok (.goto 4, 3) := by decide +kernel
theorem dX6_list_37 : decode cX6_list 37 = .ok (.iload_n 2, 1) := by decide +kernel
theorem dX6_list_38 : decode cX6_list 38 = .ok (.invokevirtual 279, 3) := by decide +kernel
theorem dX6_list_41 : decode cX6_list 41 = .ok (.iconst 1, 1) := by decide +kernel
theorem dX6_list_42 : decode cX6_list 42 = .ok (.ireturn, 1) := by decide +kernel
theorem dX6_put_0 : decode cX6_put 0 = .ok (.iload_n 1, 1) := by decide +kernel
theorem dX6_put_1 : decode cX6_put 1 = .ok (.invokestatic 276, 3) := by decide +kernel
theorem dX6_put_4 : decode cX6_put 4 = .ok (.ifCond .ne 5, 3) := by decide +kernel
theorem dX6_put_7 : decode cX6_put 7 = .ok (.iconst (-1), 1) := by decide +kernel
theorem dX6_put_8 : decode cX6_put 8 = .ok (.ireturn, 1) := by decide +kernel
theorem dX6_put_9 : decode cX6_put 9 = .ok (.aload_n 0, 1) := by decide +kernel
theorem dX6_put_10 : decode cX6_put 10 = .ok (.iload_n 1, 1) := by decide +kernel
theorem dX6_put_11 : decode cX6_put 11 = .ok (.invokevirtual 282, 3) := by decide +kernel
theorem dX6_put_14 : decode cX6_put 14 = .ok (.ifCond .eq 6, 3) := by decide +kernel
theorem dX6_put_17 : decode cX6_put 17 = .ok (.bipush (-11), 2) := by decide +kernel
theorem dX6_put_19 : decode cX6_put 19 = .ok (.ireturn, 1) := by decide +kernel
theorem dX6_put_20 : decode cX6_put 20 = .ok (.aload_n 0, 1) := by decide +kernel
theorem dX6_put_21 : decode cX6_put 21 = .ok (.iload_n 1, 1) := by decide +kernel
theorem dX6_put_22 : decode cX6_put 22 = .ok (.iload_n 2, 1) := by decide +kernel
theorem dX6_put_23 : decode cX6_put 23 = .ok (.invokevirtual 285, 3) := by decide +kernel
theorem dX6_put_26 : decode cX6_put 26 = .ok (.ifCond .ne 6, 3) := by decide +kernel
theorem dX6_put_29 : decode cX6_put 29 = .ok (.bipush (-13), 2) := by decide +kernel
theorem dX6_put_31 : decode cX6_put 31 = .ok (.ireturn, 1) := by decide +kernel
theorem dX6_put_32 : decode cX6_put 32 = .ok (.aload_n 0, 1) := by decide +kernel
theorem dX6_put_33 : decode cX6_put 33 = .ok (.getfield 23, 3) := by decide +kernel
theorem dX6_put_36 : decode cX6_put 36 = .ok (.iload_n 1, 1) := by decide +kernel
theorem dX6_put_37 : decode cX6_put 37 = .ok (.aaload, 1) := by decide +kernel
theorem dX6_put_38 : decode cX6_put 38 = .ok (.iload_n 2, 1) := by decide +kernel
theorem dX6_put_39 : decode cX6_put 39 = .ok (.lload_n 3, 1) := by decide +kernel
theorem dX6_put_40 : decode cX6_put 40 = .ok (.lastore, 1) := by decide +kernel
theorem dX6_put_41 : decode cX6_put 41 = .ok (.iconst 1, 1) := by decide +kernel
theorem dX6_put_42 : decode cX6_put 42 = .ok (.ireturn, 1) := by decide +kernel
theorem dX6_get_0 : decode cX6_get 0 = .ok (.iload_n 1, 1) := by decide +kernel
theorem dX6_get_1 : decode cX6_get 1 = .ok (.invokestatic 276, 3) := by decide +kernel
theorem dX6_get_4 : decode cX6_get 4 = .ok (.ifCond .eq 12, 3) := by decide +kernel
theorem dX6_get_7 : decode cX6_get 7 = .ok (.aload_n 0, 1) := by decide +kernel
theorem dX6_get_8 : decode cX6_get 8 = .ok (.iload_n 1, 1) := by decide +kernel
theorem dX6_get_9 : decode cX6_get 9 = .ok (.iload_n 2, 1) := by decide +kernel
theorem dX6_get_10 : decode cX6_get 10 = .ok (.invokevirtual 285, 3) := by decide +kernel
theorem dX6_get_13 : decode cX6_get 13 = .ok (.ifCond .ne 7, 3) := by decide +kernel
theorem dX6_get_16 : decode cX6_get 16 = .ok (.ldc2_w 174, 3) := by decide +kernel
theorem dX6_get_19 : decode cX6_get 19 = .ok (.lreturn, 1) := by decide +kernel
theorem dX6_get_20 : decode cX6_get 20 = .ok (.aload_n 0, 1) := by decide +kernel
theorem dX6_get_21 : decode cX6_get 21 = .ok (.getfield 23, 3) := by decide +kernel
theorem dX6_get_24 : decode cX6_get 24 = .ok (.iload_n 1, 1) := by decide +kernel
theorem dX6_get_25 : decode cX6_get 25 = .ok (.aaload, 1) := by decide +kernel
theorem dX6_get_26 : decode cX6_get 26 = .ok (.iload_n 2, 1) := by decide +kernel
theorem dX6_get_27 : decode cX6_get 27 = .ok (.laload, 1) := by decide +kernel
theorem dX6_get_28 : decode cX6_get 28 = .ok (.lreturn, 1) := by decide +kernel
theorem dX6_lay_0 : decode cX6_lay 0 = .ok (.iload_n 1, 1) := by decide +kernel
theorem dX6_lay_1 : decode cX6_lay 1 = .ok (.invokestatic 276, 3) := by decide +kernel
theorem dX6_lay_4 : decode cX6_lay 4 = .ok (.ifCond .eq 11, 3) := by decide +kernel
theorem dX6_lay_7 : decode cX6_lay 7 = .ok (.aload_n 0, 1) := by decide +kernel
theorem dX6_lay_8 : decode cX6_lay 8 = .ok (.iload_n 2, 1) := by decide +kernel
theorem dX6_lay_9 : decode cX6_lay 9 = .ok (.invokevirtual 168, 3) := by decide +kernel
theorem dX6_lay_12 : decode cX6_lay 12 = .ok (.ifCond .ne 5, 3) := by decide +kernel
theorem dX6_lay_15 : decode cX6_lay 15 = .ok (.iconst (-1), 1) := by decide +kernel
theorem dX6_lay_16 : decode cX6_lay 16 = .ok (.ireturn, 1) := by decide +kernel
theorem dX6_lay_17 : decode cX6_lay 17 = .ok (.aload_n 0, 1) := by decide +kernel
theorem dX6_lay_18 : decode cX6_lay 18 = .ok (.iload_n 2, 1) := by decide +kernel
theorem dX6_lay_19 : decode cX6_lay 19 = .ok (.invokevirtual 176, 3) := by decide +kernel
theorem dX6_lay_22 : decode cX6_lay 22 = .ok (.aload_n 0, 1) := by decide +kernel
theorem dX6_lay_23 : decode cX6_lay 23 = .ok (.iload_n 1, 1) := by decide +kernel
theorem dX6_lay_24 : decode cX6_lay 24 = .ok (.iconst 5, 1) := by decide +kernel
theorem dX6_lay_25 : decode cX6_lay 25 = .ok (.invokevirtual 279, 3) := by decide +kernel
theorem dX6_lay_28 : decode cX6_lay 28 = .ok (.iconst 0, 1) := by decide +kernel
theorem dX6_lay_29 : decode cX6_lay 29 = .ok (.istore_n 3, 1) := by decide +kernel
theorem dX6_lay_30 : decode cX6_lay 30 = .ok (.iload_n 3, 1) := by decide +kernel
theorem dX6_lay_31 : decode cX6_lay 31 = .ok (.iconst 5, 1) := by decide +kernel
theorem dX6_lay_32 : decode cX6_lay 32 = .ok (.if_icmp .ge 25, 3) := by decide +kernel
theorem dX6_lay_35 : decode cX6_lay 35 = .ok (.aload_n 0, 1) := by decide +kernel
theorem dX6_lay_36 : decode cX6_lay 36 = .ok (.getfield 23, 3) := by decide +kernel
theorem dX6_lay_39 : decode cX6_lay 39 = .ok (.iload_n 1, 1) := by decide +kernel
theorem dX6_lay_40 : decode cX6_lay 40 = .ok (.aaload, 1) := by decide +kernel
theorem dX6_lay_41 : decode cX6_lay 41 = .ok (.iload_n 3, 1) := by decide +kernel
theorem dX6_lay_42 : decode cX6_lay 42 = .ok (.aload_n 0, 1) := by decide +kernel
theorem dX6_lay_43 : decode cX6_lay 43 = .ok (.getfield 68, 3) := by decide +kernel
theorem dX6_lay_46 : decode cX6_lay 46 = .ok (.iload_n 3, 1) := by decide +kernel
theorem dX6_lay_47 : decode cX6_lay 47 = .ok (.invokevirtual 179, 3) := by decide +kernel
theorem dX6_lay_50 : decode cX6_lay 50 = .ok (.lastore, 1) := by decide +kernel
theorem dX6_lay_51 : decode cX6_lay 51 = .ok (.iinc 3 1, 3) := by decide +kernel
theorem dX6_lay_54 : decode cX6_lay 54 = .ok (.goto (-24), 3) := by decide +kernel
theorem dX6_lay_57 : decode cX6_lay 57 = .ok (.iconst 1, 1) := by decide +kernel
theorem dX6_lay_58 : decode cX6_lay 58 = .ok (.ireturn, 1) := by decide +kernel
theorem dX6_readings_0 : decode cX6_readings 0 = .ok (.iload_n 1, 1) := by decide +kernel
theorem dX6_readings_1 : decode cX6_readings 1 = .ok (.invokestatic 276, 3) := by decide +kernel
theorem dX6_readings_4 : decode cX6_readings 4 = .ok (.ifCond .ne 5, 3) := by decide +kernel
theorem dX6_readings_7 : decode cX6_readings 7 = .ok (.iconst (-1), 1) := by decide +kernel
theorem dX6_readings_8 : decode cX6_readings 8 = .ok (.ireturn, 1) := by decide +kernel
theorem dX6_readings_9 : decode cX6_readings 9 = .ok (.aload_n 0, 1) := by decide +kernel
theorem dX6_readings_10 : decode cX6_readings 10 = .ok (.aload_n 0, 1) := by decide +kernel
theorem dX6_readings_11 : decode cX6_readings 11 = .ok (.getfield 12, 3) := by decide +kernel
theorem dX6_readings_14 : decode cX6_readings 14 = .ok (.getfield 140, 3) := by decide +kernel
theorem dX6_readings_17 : decode cX6_readings 17 = .ok (.invokevirtual 176, 3) := by decide +kernel
theorem dX6_readings_20 : decode cX6_readings 20 = .ok (.aload_n 0, 1) := by decide +kernel
theorem dX6_readings_21 : decode cX6_readings 21 = .ok (.iload_n 1, 1) := by decide +kernel
theorem dX6_readings_22 : decode cX6_readings 22 = .ok (.iconst 5, 1) := by decide +kernel
theorem dX6_readings_23 : decode cX6_readings 23 = .ok (.invokevirtual 279, 3) := by decide +kernel
theorem dX6_readings_26 : decode cX6_readings 26 = .ok (.aload_n 0, 1) := by decide +kernel
theorem dX6_readings_27 : decode cX6_readings 27 = .ok (.getfield 23, 3) := by decide +kernel
theorem dX6_readings_30 : decode cX6_readings 30 = .ok (.iload_n 1, 1) := by decide +kernel
theorem dX6_readings_31 : decode cX6_readings 31 = .ok (.aaload, 1) := by decide +kernel
theorem dX6_readings_32 : decode cX6_readings 32 = .ok (.iconst 0, 1) := by decide +kernel
theorem dX6_readings_33 : decode cX6_readings 33 = .ok (.aload_n 0, 1) := by decide +kernel
theorem dX6_readings_34 : decode cX6_readings 34 = .ok (.getfield 68, 3) := by decide +kernel
theorem dX6_readings_37 : decode cX6_readings 37 = .ok (.getfield 199, 3) := by decide +kernel
theorem dX6_readings_40 : decode cX6_readings 40 = .ok (.aload_n 0, 1) := by decide +kernel
theorem dX6_readings_41 : decode cX6_readings 41 = .ok (.getfield 68, 3) := by decide +kernel
theorem dX6_readings_44 : decode cX6_readings 44 = .ok (.getfield 207, 3) := by decide +kernel
theorem dX6_readings_47 : decode cX6_readings 47 = .ok (.ladd, 1) := by decide +kernel
theorem dX6_readings_48 : decode cX6_readings 48 = .ok (.lastore, 1) := by decide +kernel
theorem dX6_readings_49 : decode cX6_readings 49 = .ok (.aload_n 0, 1) := by decide +kernel
theorem dX6_readings_50 : decode cX6_readings 50 = .ok (.getfield 23, 3) := by decide +kernel
theorem dX6_readings_53 : decode cX6_readings 53 = .ok (.iload_n 1, 1) := by decide +kernel
theorem dX6_readings_54 : decode cX6_readings 54 = .ok (.aaload, 1) := by decide +kernel
theorem dX6_readings_55 : decode cX6_readings 55 = .ok (.iconst 1, 1) := by decide +kernel
theorem dX6_readings_56 : decode cX6_readings 56 = .ok (.aload_n 0, 1) := by decide +kernel
theorem dX6_readings_57 : decode cX6_readings 57 = .ok (.getfield 68, 3) := by decide +kernel
theorem dX6_readings_60 : decode cX6_readings 60 = .ok (.getfield 199, 3) := by decide +kernel
theorem dX6_readings_63 : decode cX6_readings 63 = .ok (.aload_n 0, 1) := by decide +kernel
theorem dX6_readings_64 : decode cX6_readings 64 = .ok (.getfield 68, 3) := by decide +kernel
theorem dX6_readings_67 : decode cX6_readings 67 = .ok (.getfield 210, 3) := by decide +kernel
theorem dX6_readings_70 : decode cX6_readings 70 = .ok (.ladd, 1) := by decide +kernel
theorem dX6_readings_71 : decode cX6_readings 71 = .ok (.lastore, 1) := by decide +kernel
theorem dX6_readings_72 : decode cX6_readings 72 = .ok (.aload_n 0, 1) := by decide +kernel
theorem dX6_readings_73 : decode cX6_readings 73 = .ok (.getfield 23, 3) := by decide +kernel
theorem dX6_readings_76 : decode cX6_readings 76 = .ok (.iload_n 1, 1) := by decide +kernel
theorem dX6_readings_77 : decode cX6_readings 77 = .ok (.aaload, 1) := by decide +kernel
theorem dX6_readings_78 : decode cX6_readings 78 = .ok (.iconst 2, 1) := by decide +kernel
theorem dX6_readings_79 : decode cX6_readings 79 = .ok (.aload_n 0, 1) := by decide +kernel
theorem dX6_readings_80 : decode cX6_readings 80 = .ok (.getfield 68, 3) := by decide +kernel
theorem dX6_readings_83 : decode cX6_readings 83 = .ok (.getfield 199, 3) := by decide +kernel
theorem dX6_readings_86 : decode cX6_readings 86 = .ok (.aload_n 0, 1) := by decide +kernel
theorem dX6_readings_87 : decode cX6_readings 87 = .ok (.getfield 68, 3) := by decide +kernel
theorem dX6_readings_90 : decode cX6_readings 90 = .ok (.getfield 207, 3) := by decide +kernel
theorem dX6_readings_93 : decode cX6_readings 93 = .ok (.lsub, 1) := by decide +kernel
theorem dX6_readings_94 : decode cX6_readings 94 = .ok (.lastore, 1) := by decide +kernel
theorem dX6_readings_95 : decode cX6_readings 95 = .ok (.aload_n 0, 1) := by decide +kernel
theorem dX6_readings_96 : decode cX6_readings 96 = .ok (.getfield 23, 3) := by decide +kernel
theorem dX6_readings_99 : decode cX6_readings 99 = .ok (.iload_n 1, 1) := by decide +kernel
theorem dX6_readings_100 : decode cX6_readings 100 = .ok (.aaload, 1) := by decide +kernel
theorem dX6_readings_101 : decode cX6_readings 101 = .ok (.iconst 3, 1) := by decide +kernel
theorem dX6_readings_102 : decode cX6_readings 102 = .ok (.aload_n 0, 1) := by decide +kernel
theorem dX6_readings_103 : decode cX6_readings 103 = .ok (.getfield 68, 3) := by decide +kernel
theorem dX6_readings_106 : decode cX6_readings 106 = .ok (.getfield 199, 3) := by decide +kernel
theorem dX6_readings_109 : decode cX6_readings 109 = .ok (.aload_n 0, 1) := by decide +kernel
theorem dX6_readings_110 : decode cX6_readings 110 = .ok (.getfield 68, 3) := by decide +kernel
theorem dX6_readings_113 : decode cX6_readings 113 = .ok (.getfield 213, 3) := by decide +kernel
theorem dX6_readings_116 : decode cX6_readings 116 = .ok (.ladd, 1) := by decide +kernel
theorem dX6_readings_117 : decode cX6_readings 117 = .ok (.lastore, 1) := by decide +kernel
theorem dX6_readings_118 : decode cX6_readings 118 = .ok (.aload_n 0, 1) := by decide +kernel
theorem dX6_readings_119 : decode cX6_readings 119 = .ok (.getfield 23, 3) := by decide +kernel
theorem dX6_readings_122 : decode cX6_readings 122 = .ok (.iload_n 1, 1) := by decide +kernel
theorem dX6_readings_123 : decode cX6_readings 123 = .ok (.aaload, 1) := by decide +kernel
theorem dX6_readings_124 : decode cX6_readings 124 = .ok (.iconst 4, 1) := by decide +kernel
theorem dX6_readings_125 : decode cX6_readings 125 = .ok (.aload_n 0, 1) := by decide +kernel
theorem dX6_readings_126 : decode cX6_readings 126 = .ok (.getfield 68, 3) := by decide +kernel
theorem dX6_readings_129 : decode cX6_readings 129 = .ok (.getfield 246, 3) := by decide +kernel
theorem dX6_readings_132 : decode cX6_readings 132 = .ok (.iconst 1, 1) := by decide +kernel
theorem dX6_readings_133 : decode cX6_readings 133 = .ok (.iadd, 1) := by decide +kernel
theorem dX6_readings_134 : decode cX6_readings 134 = .ok (.i2l, 1) := by decide +kernel
theorem dX6_readings_135 : decode cX6_readings 135 = .ok (.lastore, 1) := by decide +kernel
theorem dX6_readings_136 : decode cX6_readings 136 = .ok (.iconst 1, 1) := by decide +kernel
theorem dX6_readings_137 : decode cX6_readings 137 = .ok (.ireturn, 1) := by decide +kernel
theorem dX6_refound_0 : decode cX6_refound 0 = .ok (.iload_n 1, 1) := by decide +kernel
theorem dX6_refound_1 : decode cX6_refound 1 = .ok (.invokestatic 276, 3) := by decide +kernel
theorem dX6_refound_4 : decode cX6_refound 4 = .ok (.ifCond .eq 20, 3) := by decide +kernel
theorem dX6_refound_7 : decode cX6_refound 7 = .ok (.iload_n 2, 1) := by decide +kernel
theorem dX6_refound_8 : decode cX6_refound 8 = .ok (.ifCond .lt 16, 3) := by decide +kernel
theorem dX6_refound_11 : decode cX6_refound 11 = .ok (.iload_n 2, 1) := by decide +kernel
theorem dX6_refound_12 : decode cX6_refound 12 = .ok (.iconst 5, 1) := by decide +kernel
theorem dX6_refound_13 : decode cX6_refound 13 = .ok (.if_icmp .gt 11, 3) := by decide +kernel
theorem dX6_refound_16 : decode cX6_refound 16 = .ok (.aload_n 0, 1) := by decide +kernel
theorem dX6_refound_17 : decode cX6_refound 17 = .ok (.iload_n 1, 1) := by decide +kernel
theorem dX6_refound_18 : decode cX6_refound 18 = .ok (.invokevirtual 288, 3) := by decide +kernel
theorem dX6_refound_21 : decode cX6_refound 21 = .ok (.ifCond .ne 7, 3) := by decide +kernel
theorem dX6_refound_24 : decode cX6_refound 24 = .ok (.ldc2_w 174, 3) := by decide +kernel
theorem dX6_refound_27 : decode cX6_refound 27 = .ok (.lreturn, 1) := by decide +kernel
theorem dX6_refound_28 : decode cX6_refound 28 = .ok (.iload_n 2, 1) := by decide +kernel
theorem dX6_refound_29 : decode cX6_refound 29 = .ok (.iconst 5, 1) := by decide +kernel
theorem dX6_refound_30 : decode cX6_refound 30 = .ok (.if_icmp .ne 19, 3) := by decide +kernel
theorem dX6_refound_33 : decode cX6_refound 33 = .ok (.aload_n 0, 1) := by decide +kernel
theorem dX6_refound_34 : decode cX6_refound 34 = .ok (.getfield 75, 3) := by decide +kernel
theorem dX6_refound_37 : decode cX6_refound 37 = .ok (.invokevirtual 82, 3) := by decide +kernel
theorem dX6_refound_40 : decode cX6_refound 40 = .ok (.ifCond .eq 7, 3) := by decide +kernel
theorem dX6_refound_43 : decode cX6_refound 43 = .ok (.lconst 1, 1) := by decide +kernel
theorem dX6_refound_44 : decode cX6_refound 44 = .ok (.goto 4, 3) := by decide +kernel
theorem dX6_refound_47 : decode cX6_refound 47 = .ok (.lconst 0, 1) := by decide +kernel
theorem dX6_refound_48 : decode cX6_refound 48 = .ok (.lreturn, 1) := by decide +kernel
theorem dX6_refound_49 : decode cX6_refound 49 = .ok (.aload_n 0, 1) := by decide +kernel
theorem dX6_refound_50 : decode cX6_refound 50 = .ok (.getfield 75, 3) := by decide +kernel
theorem dX6_refound_53 : decode cX6_refound 53 = .ok (.iload_n 2, 1) := by decide +kernel
theorem dX6_refound_54 : decode cX6_refound 54 = .ok (.invokevirtual 179, 3) := by decide +kernel
theorem dX6_refound_57 : decode cX6_refound 57 = .ok (.lreturn, 1) := by decide +kernel
theorem dX6_through_0 : decode cX6_through 0 = .ok (.iload_n 1, 1) := by decide +kernel
theorem dX6_through_1 : decode cX6_through 1 = .ok (.invokestatic 276, 3) := by decide +kernel
theorem dX6_through_4 : decode cX6_through 4 = .ok (.ifCond .eq 18, 3) := by decide +kernel
theorem dX6_through_7 : decode cX6_through 7 = .ok (.iload_n 2, 1) := by decide +kernel
theorem dX6_through_8 : decode cX6_through 8 = .ok (.invokestatic 171, 3) := by decide +kernel
theorem dX6_through_11 : decode cX6_through 11 = .ok (.ifCond .eq 11, 3) := by decide +kernel
theorem dX6_through_14 : decode cX6_through 14 = .ok (.aload_n 0, 1) := by decide +kernel
theorem dX6_through_15 : decode cX6_through 15 = .ok (.iload_n 1, 1) := by decide +kernel
theorem dX6_through_16 : decode cX6_through 16 = .ok (.invokevirtual 291, 3) := by decide +kernel
theorem dX6_through_19 : decode cX6_through 19 = .ok (.ifCond .ne 7, 3) := by decide +kernel
theorem dX6_through_22 : decode cX6_through 22 = .ok (.ldc2_w 174, 3) := by decide +kernel
theorem dX6_through_25 : decode cX6_through 25 = .ok (.lreturn, 1) := by decide +kernel
theorem dX6_through_26 : decode cX6_through 26 = .ok (.aload_n 0, 1) := by decide +kernel
theorem dX6_through_27 : decode cX6_through 27 = .ok (.getfield 12, 3) := by decide +kernel
theorem dX6_through_30 : decode cX6_through 30 = .ok (.aload_n 0, 1) := by decide +kernel
theorem dX6_through_31 : decode cX6_through 31 = .ok (.getfield 75, 3) := by decide +kernel
theorem dX6_through_34 : decode cX6_through 34 = .ok (.iconst 0, 1) := by decide +kernel
theorem dX6_through_35 : decode cX6_through 35 = .ok (.aload_n 0, 1) := by decide +kernel
theorem dX6_through_36 : decode cX6_through 36 = .ok (.getfield 12, 3) := by decide +kernel
theorem dX6_through_39 : decode cX6_through 39 = .ok (.getfield 140, 3) := by decide +kernel
theorem dX6_through_42 : decode cX6_through 42 = .ok (.invokevirtual 242, 3) := by decide +kernel
theorem dX6_through_45 : decode cX6_through 45 = .ok (.aload_n 0, 1) := by decide +kernel
theorem dX6_through_46 : decode cX6_through 46 = .ok (.getfield 75, 3) := by decide +kernel
theorem dX6_through_49 : decode cX6_through 49 = .ok (.iload_n 2, 1) := by decide +kernel
theorem dX6_through_50 : decode cX6_through 50 = .ok (.invokevirtual 179, 3) := by decide +kernel
theorem dX6_through_53 : decode cX6_through 53 = .ok (.lreturn, 1) := by decide +kernel
theorem dX6_before_0 : decode cX6_before 0 = .ok (.iload_n 1, 1) := by decide +kernel
theorem dX6_before_1 : decode cX6_before 1 = .ok (.invokestatic 276, 3) := by decide +kernel
theorem dX6_before_4 : decode cX6_before 4 = .ok (.ifCond .eq 28, 3) := by decide +kernel
theorem dX6_before_7 : decode cX6_before 7 = .ok (.iload_n 2, 1) := by decide +kernel
theorem dX6_before_8 : decode cX6_before 8 = .ok (.invokestatic 171, 3) := by decide +kernel
theorem dX6_before_11 : decode cX6_before 11 = .ok (.ifCond .eq 21, 3) := by decide +kernel
theorem dX6_before_14 : decode cX6_before 14 = .ok (.aload_n 0, 1) := by decide +kernel
theorem dX6_before_15 : decode cX6_before 15 = .ok (.iload_n 1, 1) := by decide +kernel
theorem dX6_before_16 : decode cX6_before 16 = .ok (.invokevirtual 291, 3) := by decide +kernel
theorem dX6_before_19 : decode cX6_before 19 = .ok (.ifCond .eq 13, 3) := by decide +kernel
theorem dX6_before_22 : decode cX6_before 22 = .ok (.aload_n 0, 1) := by decide +kernel
theorem dX6_before_23 : decode cX6_before 23 = .ok (.getfield 12, 3) := by decide +kernel
theorem dX6_before_26 : decode cX6_before 26 = .ok (.invokevirtual 294, 3) := by decide +kernel
theorem dX6_before_29 : decode cX6_before 29 = .ok (.ifCond .ne 7, 3) := by decide +kernel
theorem dX6_before_32 : decode cX6_before 32 = .ok (.ldc2_w 174, 3) := by decide +kernel
theorem dX6_before_35 : decode cX6_before 35 = .ok (.lreturn, 1) := by decide +kernel
theorem dX6_before_36 : decode cX6_before 36 = .ok (.aload_n 0, 1) := by decide +kernel
theorem dX6_before_37 : decode cX6_before 37 = .ok (.getfield 12, 3) := by decide +kernel
theorem dX6_before_40 : decode cX6_before 40 = .ok (.getfield 140, 3) := by decide +kernel
theorem dX6_before_43 : decode cX6_before 43 = .ok (.iconst 1, 1) := by decide +kernel
theorem dX6_before_44 : decode cX6_before 44 = .ok (.isub, 1) := by decide +kernel
theorem dX6_before_45 : decode cX6_before 45 = .ok (.istore_n 3, 1) := by decide +kernel
theorem dX6_before_46 : decode cX6_before 46 = .ok (.iload_n 3, 1) := by decide +kernel
theorem dX6_before_47 : decode cX6_before 47 = .ok (.ifCond .lt 28, 3) := by decide +kernel
theorem dX6_before_50 : decode cX6_before 50 = .ok (.aload_n 0, 1) := by decide +kernel
theorem dX6_before_51 : decode cX6_before 51 = .ok (.getfield 75, 3) := by decide +kernel
theorem dX6_before_54 : decode cX6_before 54 = .ok (.aload_n 0, 1) := by decide +kernel
theorem dX6_before_55 : decode cX6_before 55 = .ok (.getfield 12, 3) := by decide +kernel
theorem dX6_before_58 : decode cX6_before 58 = .ok (.getfield 118, 3) := by decide +kernel
theorem dX6_before_61 : decode cX6_before 61 = .ok (.iload_n 3, 1) := by decide +kernel
theorem dX6_before_62 : decode cX6_before 62 = .ok (.iaload, 1) := by decide +kernel
theorem dX6_before_63 : decode cX6_before 63 = .ok (.invokestatic 297, 3) := by decide +kernel
theorem dX6_before_66 : decode cX6_before 66 = .ok (.invokevirtual 252, 3) := by decide +kernel
theorem dX6_before_69 : decode cX6_before 69 = .ok (.iinc 3 (-1), 3) := by decide +kernel
theorem dX6_before_72 : decode cX6_before 72 = .ok (.goto (-26), 3) := by decide +kernel
theorem dX6_before_75 : decode cX6_before 75 = .ok (.aload_n 0, 1) := by decide +kernel
theorem dX6_before_76 : decode cX6_before 76 = .ok (.getfield 75, 3) := by decide +kernel
theorem dX6_before_79 : decode cX6_before 79 = .ok (.iload_n 2, 1) := by decide +kernel
theorem dX6_before_80 : decode cX6_before 80 = .ok (.invokevirtual 179, 3) := by decide +kernel
theorem dX6_before_83 : decode cX6_before 83 = .ok (.lreturn, 1) := by decide +kernel
theorem dX6_found_0 : decode cX6_found 0 = .ok (.iload_n 1, 1) := by decide +kernel
theorem dX6_found_1 : decode cX6_found 1 = .ok (.invokestatic 276, 3) := by decide +kernel
theorem dX6_found_4 : decode cX6_found 4 = .ok (.ifCond .eq 23, 3) := by decide +kernel
theorem dX6_found_7 : decode cX6_found 7 = .ok (.aload_n 0, 1) := by decide +kernel
theorem dX6_found_8 : decode cX6_found 8 = .ok (.getfield 12, 3) := by decide +kernel
theorem dX6_found_11 : decode cX6_found 11 = .ok (.iload_n 2, 1) := by decide +kernel
theorem dX6_found_12 : decode cX6_found 12 = .ok (.invokevirtual 111, 3) := by decide +kernel
theorem dX6_found_15 : decode cX6_found 15 = .ok (.ifCond .eq 12, 3) := by decide +kernel
theorem dX6_found_18 : decode cX6_found 18 = .ok (.iload_n 3, 1) := by decide +kernel
theorem dX6_found_19 : decode cX6_found 19 = .ok (.ifCond .lt 8, 3) := by decide +kernel
theorem dX6_found_22 : decode cX6_found 22 = .ok (.iload_n 3, 1) := by decide +kernel
theorem dX6_found_23 : decode cX6_found 23 = .ok (.iconst 2, 1) := by decide +kernel
theorem dX6_found_24 : decode cX6_found 24 = .ok (.if_icmp .le 5, 3) := by decide +kernel
theorem dX6_found_27 : decode cX6_found 27 = .ok (.iconst (-1), 1) := by decide +kernel
theorem dX6_found_28 : decode cX6_found 28 = .ok (.ireturn, 1) := by decide +kernel
theorem dX6_found_29 : decode cX6_found 29 = .ok (.aload_n 0, 1) := by decide +kernel
theorem dX6_found_30 : decode cX6_found 30 = .ok (.iload_n 1, 1) := by decide +kernel
theorem dX6_found_31 : decode cX6_found 31 = .ok (.invokevirtual 282, 3) := by decide +kernel
theorem dX6_found_34 : decode cX6_found 34 = .ok (.ifCond .eq 6, 3) := by decide +kernel
theorem dX6_found_37 : decode cX6_found 37 = .ok (.bipush (-11), 2) := by decide +kernel
theorem dX6_found_39 : decode cX6_found 39 = .ok (.ireturn, 1) := by decide +kernel
theorem dX6_found_40 : decode cX6_found 40 = .ok (.aload_n 0, 1) := by decide +kernel
theorem dX6_found_41 : decode cX6_found 41 = .ok (.iload_n 1, 1) := by decide +kernel
theorem dX6_found_42 : decode cX6_found 42 = .ok (.invokevirtual 291, 3) := by decide +kernel
theorem dX6_found_45 : decode cX6_found 45 = .ok (.ifCond .ne 6, 3) := by decide +kernel
theorem dX6_found_48 : decode cX6_found 48 = .ok (.bipush (-2), 2) := by decide +kernel
theorem dX6_found_50 : decode cX6_found 50 = .ok (.ireturn, 1) := by decide +kernel
theorem dX6_found_51 : decode cX6_found 51 = .ok (.aload_n 0, 1) := by decide +kernel
theorem dX6_found_52 : decode cX6_found 52 = .ok (.iload_n 2, 1) := by decide +kernel
theorem dX6_found_53 : decode cX6_found 53 = .ok (.invokevirtual 176, 3) := by decide +kernel
theorem dX6_found_56 : decode cX6_found 56 = .ok (.aload_n 0, 1) := by decide +kernel
theorem dX6_found_57 : decode cX6_found 57 = .ok (.getfield 72, 3) := by decide +kernel
theorem dX6_found_60 : decode cX6_found 60 = .ok (.aload_n 0, 1) := by decide +kernel
theorem dX6_found_61 : decode cX6_found 61 = .ok (.getfield 68, 3) := by decide +kernel
theorem dX6_found_64 : decode cX6_found 64 = .ok (.invokevirtual 89, 3) := by decide +kernel
theorem dX6_found_67 : decode cX6_found 67 = .ok (.iconst 0, 1) := by decide +kernel
theorem dX6_found_68 : decode cX6_found 68 = .ok (.istore 4, 2) := by decide +kernel
theorem dX6_found_70 : decode cX6_found 70 = .ok (.iconst 0, 1) := by decide +kernel
theorem dX6_found_71 : decode cX6_found 71 = .ok (.istore 5, 2) := by decide +kernel
theorem dX6_found_73 : decode cX6_found 73 = .ok (.bipush (-5), 2) := by decide +kernel
theorem dX6_found_75 : decode cX6_found 75 = .ok (.istore 6, 2) := by decide +kernel
theorem dX6_found_77 : decode cX6_found 77 = .ok (.iconst 0, 1) := by decide +kernel
theorem dX6_found_78 : decode cX6_found 78 = .ok (.istore 7, 2) := by decide +kernel
theorem dX6_found_80 : decode cX6_found 80 = .ok (.iload 7, 2) := by decide +kernel
theorem dX6_found_82 : decode cX6_found 82 = .ok (.bipush 7, 2) := by decide +kernel
theorem dX6_found_84 : decode cX6_found 84 = .ok (.if_icmp .ge 89, 3) := by decide +kernel
theorem dX6_found_87 : decode cX6_found 87 = .ok (.iconst 0, 1) := by decide +kernel
theorem dX6_found_88 : decode cX6_found 88 = .ok (.istore 8, 2) := by decide +kernel
theorem dX6_found_90 : decode cX6_found 90 = .ok (.iload 8, 2) := by decide +kernel
theorem dX6_found_92 : decode cX6_found 92 = .ok (.bipush 68, 2) := by decide +kernel
theorem dX6_found_94 : decode cX6_found 94 = .ok (.if_icmp .ge 73, 3) := by decide +kernel
theorem dX6_found_97 : decode cX6_found 97 = .ok (.iload 7, 2) := by decide +kernel
theorem dX6_found_99 : decode cX6_found 99 = .ok (.iload 8, 2) := by decide +kernel
theorem dX6_found_101 : decode cX6_found 101 = .ok (.bipush 17, 2) := by decide +kernel
theorem dX6_found_103 : decode cX6_found 103 = .ok (.idiv, 1) := by decide +kernel
theorem dX6_found_104 : decode cX6_found 104 = .ok (.iload 8, 2) := by decide +kernel
theorem dX6_found_106 : decode cX6_found 106 = .ok (.bipush 17, 2) := by decide +kernel
theorem dX6_found_108 : decode cX6_found 108 = .ok (.irem, 1) := by decide +kernel
theorem dX6_found_109 : decode cX6_found 109 = .ok (.invokestatic 103, 3) := by decide +kernel
theorem dX6_found_112 : decode cX6_found 112 = .ok (.istore 9, 2) := by decide +kernel
theorem dX6_found_114 : decode cX6_found 114 = .ok (.aload_n 0, 1) := by decide +kernel
theorem dX6_found_115 : decode cX6_found 115 = .ok (.iload_n 2, 1) := by decide +kernel
theorem dX6_found_116 : decode cX6_found 116 = .ok (.iload 9, 2) := by decide +kernel
theorem dX6_found_118 : decode cX6_found 118 = .ok (.invokevirtual 262, 3) := by decide +kernel
theorem dX6_found_121 : decode cX6_found 121 = .ok (.aload_n 0, 1) := by decide +kernel
theorem dX6_found_122 : decode cX6_found 122 = .ok (.getfield 68, 3) := by decide +kernel
theorem dX6_found_125 : decode cX6_found 125 = .ok (.aload_n 0, 1) := by decide +kernel
theorem dX6_found_126 : decode cX6_found 126 = .ok (.getfield 75, 3) := by decide +kernel
theorem dX6_found_129 : decode cX6_found 129 = .ok (.invokevirtual 255, 3) := by decide +kernel
theorem dX6_found_132 : decode cX6_found 132 = .ok (.ifCond .eq 29, 3) := by decide +kernel
theorem dX6_found_135 : decode cX6_found 135 = .ok (.iload 4, 2) := by decide +kernel
theorem dX6_found_137 : decode cX6_found 137 = .ok (.ifCond .ne 8, 3) := by decide +kernel
theorem dX6_found_140 : decode cX6_found 140 = .ok (.iload 9, 2) := by decide +kernel
theorem dX6_found_142 : decode cX6_found 142 = .ok (.goto 5, 3) := by decide +kernel
theorem dX6_found_145 : decode cX6_found 145 = .ok (.iload 6, 2) := by decide +kernel
theorem dX6_found_147 : decode cX6_found 147 = .ok (.istore 6, 2) := by decide +kernel
theorem dX6_found_149 : decode cX6_found 149 = .ok (.iload 5, 2) := by decide +kernel
theorem dX6_found_151 : decode cX6_found 151 = .ok (.iconst 1, 1) := by decide +kernel
theorem dX6_found_152 : decode cX6_found 152 = .ok (.iload 7, 2) := by decide +kernel
theorem dX6_found_154 : decode cX6_found 154 = .ok (.ishl, 1) := by decide +kernel
theorem dX6_found_155 : decode cX6_found 155 = .ok (.ior, 1) := by decide +kernel
theorem dX6_found_156 : decode cX6_found 156 = .ok (.istore 5, 2) := by decide +kernel
theorem dX6_found_158 : decode cX6_found 158 = .ok (.iinc 4 1, 3) := by decide +kernel
theorem dX6_found_161 : decode cX6_found 161 = .ok (.iinc 8 1, 3) := by decide +kernel
theorem dX6_found_164 : decode cX6_found 164 = .ok (.goto (-74), 3) := by decide +kernel
theorem dX6_found_167 : decode cX6_found 167 = .ok (.iinc 7 1, 3) := by decide +kernel
theorem dX6_found_170 : decode cX6_found 170 = .ok (.goto (-90), 3) := by decide +kernel
theorem dX6_found_173 : decode cX6_found 173 = .ok (.iload_n 3, 1) := by decide +kernel
theorem dX6_found_174 : decode cX6_found 174 = .ok (.ifCond .ne 6, 3) := by decide +kernel
theorem dX6_found_177 : decode cX6_found 177 = .ok (.iload 4, 2) := by decide +kernel
theorem dX6_found_179 : decode cX6_found 179 = .ok (.ireturn, 1) := by decide +kernel
theorem dX6_found_180 : decode cX6_found 180 = .ok (.iload_n 3, 1) := by decide +kernel
theorem dX6_found_181 : decode cX6_found 181 = .ok (.iconst 1, 1) := by decide +kernel
theorem dX6_found_182 : decode cX6_found 182 = .ok (.if_icmp .ne 8, 3) := by decide +kernel
theorem dX6_found_185 : decode cX6_found 185 = .ok (.iload 6, 2) := by decide +kernel
theorem dX6_found_187 : decode cX6_found 187 = .ok (.goto 5, 3) := by decide +kernel
theorem dX6_found_190 : decode cX6_found 190 = .ok (.iload 5, 2) := by decide +kernel
theorem dX6_found_192 : decode cX6_found 192 = .ok (.ireturn, 1) := by decide +kernel
theorem dX6_meter_0 : decode cX6_meter 0 = .ok (.aload_n 0, 1) := by decide +kernel
theorem dX6_meter_1 : decode cX6_meter 1 = .ok (.iload_n 1, 1) := by decide +kernel
theorem dX6_meter_2 : decode cX6_meter 2 = .ok (.invokevirtual 168, 3) := by decide +kernel
theorem dX6_meter_5 : decode cX6_meter 5 = .ok (.ifCond .eq 12, 3) := by decide +kernel
theorem dX6_meter_8 : decode cX6_meter 8 = .ok (.iload_n 2, 1) := by decide +kernel
theorem dX6_meter_9 : decode cX6_meter 9 = .ok (.ifCond .lt 8, 3) := by decide +kernel
theorem dX6_meter_12 : decode cX6_meter 12 = .ok (.iload_n 2, 1) := by decide +kernel
theorem dX6_meter_13 : decode cX6_meter 13 = .ok (.iconst 1, 1) := by decide +kernel
theorem dX6_meter_14 : decode cX6_meter 14 = .ok (.if_icmp .le 7, 3) := by decide +kernel
theorem dX6_meter_17 : decode cX6_meter 17 = .ok (.ldc2_w 174, 3) := by decide +kernel
theorem dX6_meter_20 : decode cX6_meter 20 = .ok (.lreturn, 1) := by decide +kernel
theorem dX6_meter_21 : decode cX6_meter 21 = .ok (.aload_n 0, 1) := by decide +kernel
theorem dX6_meter_22 : decode cX6_meter 22 = .ok (.iload_n 1, 1) := by decide +kernel
theorem dX6_meter_23 : decode cX6_meter 23 = .ok (.invokevirtual 300, 3) := by decide +kernel
theorem dX6_meter_26 : decode cX6_meter 26 = .ok (.dstore_n 3, 1) := by decide +kernel
theorem dX6_meter_27 : decode cX6_meter 27 = .ok (.iload_n 2, 1) := by decide +kernel
theorem dX6_meter_28 : decode cX6_meter 28 = .ok (.ifCond .ne 12, 3) := by decide +kernel
theorem dX6_meter_31 : decode cX6_meter 31 = .ok (.dload_n 3, 1) := by decide +kernel
theorem dX6_meter_32 : decode cX6_meter 32 = .ok (.d2f, 1) := by decide +kernel
theorem dX6_meter_33 : decode cX6_meter 33 = .ok (.invokestatic 304, 3) := by decide +kernel
theorem dX6_meter_36 : decode cX6_meter 36 = .ok (.i2l, 1) := by decide +kernel
theorem dX6_meter_37 : decode cX6_meter 37 = .ok (.goto 7, 3) := by decide +kernel
theorem dX6_meter_40 : decode cX6_meter 40 = .ok (.dload_n 3, 1) := by decide +kernel
theorem dX6_meter_41 : decode cX6_meter 41 = .ok (.invokestatic 308, 3) := by decide +kernel
theorem dX6_meter_44 : decode cX6_meter 44 = .ok (.lreturn, 1) := by decide +kernel
theorem dX6_expose_0 : decode cX6_expose 0 = .ok (.iload_n 1, 1) := by decide +kernel
theorem dX6_expose_1 : decode cX6_expose 1 = .ok (.invokestatic 312, 3) := by decide +kernel
theorem dX6_expose_4 : decode cX6_expose 4 = .ok (.ifCond .ne 5, 3) := by decide +kernel
theorem dX6_expose_7 : decode cX6_expose 7 = .ok (.iconst (-1), 1) := by decide +kernel
theorem dX6_expose_8 : decode cX6_expose 8 = .ok (.ireturn, 1) := by decide +kernel
theorem dX6_expose_9 : decode cX6_expose 9 = .ok (.aload_n 0, 1) := by decide +kernel
theorem dX6_expose_10 : decode cX6_expose 10 = .ok (.getfield 12, 3) := by decide +kernel
theorem dX6_expose_13 : decode cX6_expose 13 = .ok (.getfield 315, 3) := by decide +kernel
theorem dX6_expose_16 : decode cX6_expose 16 = .ok (.iload_n 1, 1) := by decide +kernel
theorem dX6_expose_17 : decode cX6_expose 17 = .ok (.aload_n 0, 1) := by decide +kernel
theorem dX6_expose_18 : decode cX6_expose 18 = .ok (.getfield 12, 3) := by decide +kernel
theorem dX6_expose_21 : decode cX6_expose 21 = .ok (.getfield 315, 3) := by decide +kernel
theorem dX6_expose_24 : decode cX6_expose 24 = .ok (.iload_n 1, 1) := by decide +kernel
theorem dX6_expose_25 : decode cX6_expose 25 = .ok (.faload, 1) := by decide +kernel
theorem dX6_expose_26 : decode cX6_expose 26 = .ok (.aload_n 0, 1) := by decide +kernel
theorem dX6_expose_27 : decode cX6_expose 27 = .ok (.aload_n 0, 1) := by decide +kernel
theorem dX6_expose_28 : decode cX6_expose 28 = .ok (.getfield 12, 3) := by decide +kernel
theorem dX6_expose_31 : decode cX6_expose 31 = .ok (.getfield 140, 3) := by decide +kernel
theorem dX6_expose_34 : decode cX6_expose 34 = .ok (.invokevirtual 300, 3) := by decide +kernel
theorem dX6_expose_37 : decode cX6_expose 37 = .ok (.d2f, 1) := by decide +kernel
theorem dX6_expose_38 : decode cX6_expose 38 = .ok (.fadd, 1) := by decide +kernel
theorem dX6_expose_39 : decode cX6_expose 39 = .ok (.fastore, 1) := by decide +kernel
theorem dX6_expose_40 : decode cX6_expose 40 = .ok (.aload_n 0, 1) := by decide +kernel
theorem dX6_expose_41 : decode cX6_expose 41 = .ok (.getfield 12, 3) := by decide +kernel
theorem dX6_expose_44 : decode cX6_expose 44 = .ok (.getfield 315, 3) := by decide +kernel
theorem dX6_expose_47 : decode cX6_expose 47 = .ok (.iload_n 1, 1) := by decide +kernel
theorem dX6_expose_48 : decode cX6_expose 48 = .ok (.faload, 1) := by decide +kernel
theorem dX6_expose_49 : decode cX6_expose 49 = .ok (.invokestatic 304, 3) := by decide +kernel
theorem dX6_expose_52 : decode cX6_expose 52 = .ok (.ireturn, 1) := by decide +kernel
theorem dX6_dim_0 : decode cX6_dim 0 = .ok (.iload_n 1, 1) := by decide +kernel
theorem dX6_dim_1 : decode cX6_dim 1 = .ok (.invokestatic 312, 3) := by decide +kernel
theorem dX6_dim_4 : decode cX6_dim 4 = .ok (.ifCond .ne 5, 3) := by decide +kernel
theorem dX6_dim_7 : decode cX6_dim 7 = .ok (.iconst (-1), 1) := by decide +kernel
theorem dX6_dim_8 : decode cX6_dim 8 = .ok (.ireturn, 1) := by decide +kernel
theorem dX6_dim_9 : decode cX6_dim 9 = .ok (.iload_n 2, 1) := by decide +kernel
theorem dX6_dim_10 : decode cX6_dim 10 = .ok (.ifCond .lt 9, 3) := by decide +kernel
theorem dX6_dim_13 : decode cX6_dim 13 = .ok (.iload_n 2, 1) := by decide +kernel
theorem dX6_dim_14 : decode cX6_dim 14 = .ok (.bipush 16, 2) := by decide +kernel
theorem dX6_dim_16 : decode cX6_dim 16 = .ok (.if_icmp .le 6, 3) := by decide +kernel
theorem dX6_dim_19 : decode cX6_dim 19 = .ok (.bipush (-2), 2) := by decide +kernel
theorem dX6_dim_21 : decode cX6_dim 21 = .ok (.ireturn, 1) := by decide +kernel
theorem dX6_dim_22 : decode cX6_dim 22 = .ok (.aload_n 0, 1) := by decide +kernel
theorem dX6_dim_23 : decode cX6_dim 23 = .ok (.getfield 12, 3) := by decide +kernel
theorem dX6_dim_26 : decode cX6_dim 26 = .ok (.getfield 315, 3) := by decide +kernel
theorem dX6_dim_29 : decode cX6_dim 29 = .ok (.iload_n 1, 1) := by decide +kernel
theorem dX6_dim_30 : decode cX6_dim 30 = .ok (.faload, 1) := by decide +kernel
theorem dX6_dim_31 : decode cX6_dim 31 = .ok (.iload_n 2, 1) := by decide +kernel
theorem dX6_dim_32 : decode cX6_dim 32 = .ok (.i2f, 1) := by decide +kernel
theorem dX6_dim_33 : decode cX6_dim 33 = .ok (.fmul, 1) := by decide +kernel
theorem dX6_dim_34 : decode cX6_dim 34 = .ok (.fstore_n 3, 1) := by decide +kernel
theorem dX6_dim_35 : decode cX6_dim 35 = .ok (.aload_n 0, 1) := by decide +kernel
theorem dX6_dim_36 : decode cX6_dim 36 = .ok (.getfield 12, 3) := by decide +kernel
theorem dX6_dim_39 : decode cX6_dim 39 = .ok (.getfield 315, 3) := by decide +kernel
theorem dX6_dim_42 : decode cX6_dim 42 = .ok (.iload_n 1, 1) := by decide +kernel
theorem dX6_dim_43 : decode cX6_dim 43 = .ok (.fload_n 3, 1) := by decide +kernel
theorem dX6_dim_44 : decode cX6_dim 44 = .ok (.ldc_w 319, 3) := by decide +kernel
theorem dX6_dim_47 : decode cX6_dim 47 = .ok (.fdiv, 1) := by decide +kernel
theorem dX6_dim_48 : decode cX6_dim 48 = .ok (.fastore, 1) := by decide +kernel
theorem dX6_dim_49 : decode cX6_dim 49 = .ok (.aload_n 0, 1) := by decide +kernel
theorem dX6_dim_50 : decode cX6_dim 50 = .ok (.getfield 12, 3) := by decide +kernel
theorem dX6_dim_53 : decode cX6_dim 53 = .ok (.getfield 315, 3) := by decide +kernel
theorem dX6_dim_56 : decode cX6_dim 56 = .ok (.iload_n 1, 1) := by decide +kernel
theorem dX6_dim_57 : decode cX6_dim 57 = .ok (.faload, 1) := by decide +kernel
theorem dX6_dim_58 : decode cX6_dim 58 = .ok (.invokestatic 304, 3) := by decide +kernel
theorem dX6_dim_61 : decode cX6_dim 61 = .ok (.ireturn, 1) := by decide +kernel
theorem dX6_film_0 : decode cX6_film 0 = .ok (.iload_n 1, 1) := by decide +kernel
theorem dX6_film_1 : decode cX6_film 1 = .ok (.invokestatic 312, 3) := by decide +kernel
theorem dX6_film_4 : decode cX6_film 4 = .ok (.ifCond .ne 5, 3) := by decide +kernel
theorem dX6_film_7 : decode cX6_film 7 = .ok (.iconst (-1), 1) := by decide +kernel
theorem dX6_film_8 : decode cX6_film 8 = .ok (.ireturn, 1) := by decide +kernel
theorem dX6_film_9 : decode cX6_film 9 = .ok (.iload_n 2, 1) := by decide +kernel
theorem dX6_film_10 : decode cX6_film 10 = .ok (.tableswitch 85 0 2 #[26, 39, 54], 26) := by decide +kernel
theorem dX6_film_36 : decode cX6_film 36 = .ok (.aload_n 0, 1) := by decide +kernel
theorem dX6_film_37 : decode cX6_film 37 = .ok (.getfield 12, 3) := by decide +kernel
theorem dX6_film_40 : decode cX6_film 40 = .ok (.getfield 315, 3) := by decide +kernel
theorem dX6_film_43 : decode cX6_film 43 = .ok (.iload_n 1, 1) := by decide +kernel
theorem dX6_film_44 : decode cX6_film 44 = .ok (.faload, 1) := by decide +kernel
theorem dX6_film_45 : decode cX6_film 45 = .ok (.invokestatic 304, 3) := by decide +kernel
theorem dX6_film_48 : decode cX6_film 48 = .ok (.ireturn, 1) := by decide +kernel
theorem dX6_film_49 : decode cX6_film 49 = .ok (.aload_n 0, 1) := by decide +kernel
theorem dX6_film_50 : decode cX6_film 50 = .ok (.getfield 12, 3) := by decide +kernel
theorem dX6_film_53 : decode cX6_film 53 = .ok (.getfield 315, 3) := by decide +kernel
theorem dX6_film_56 : decode cX6_film 56 = .ok (.iload_n 1, 1) := by decide +kernel
theorem dX6_film_57 : decode cX6_film 57 = .ok (.faload, 1) := by decide +kernel
theorem dX6_film_58 : decode cX6_film 58 = .ok (.ldc_w 320, 3) := by decide +kernel
theorem dX6_film_61 : decode cX6_film 61 = .ok (.fmul, 1) := by decide +kernel
theorem dX6_film_62 : decode cX6_film 62 = .ok (.f2i, 1) := by decide +kernel
theorem dX6_film_63 : decode cX6_film 63 = .ok (.ireturn, 1) := by decide +kernel
theorem dX6_film_64 : decode cX6_film 64 = .ok (.aload_n 0, 1) := by decide +kernel
theorem dX6_film_65 : decode cX6_film 65 = .ok (.getfield 12, 3) := by decide +kernel
theorem dX6_film_68 : decode cX6_film 68 = .ok (.getfield 315, 3) := by decide +kernel
theorem dX6_film_71 : decode cX6_film 71 = .ok (.iload_n 1, 1) := by decide +kernel
theorem dX6_film_72 : decode cX6_film 72 = .ok (.faload, 1) := by decide +kernel
theorem dX6_film_73 : decode cX6_film 73 = .ok (.aload_n 0, 1) := by decide +kernel
theorem dX6_film_74 : decode cX6_film 74 = .ok (.aload_n 0, 1) := by decide +kernel
theorem dX6_film_75 : decode cX6_film 75 = .ok (.getfield 12, 3) := by decide +kernel
theorem dX6_film_78 : decode cX6_film 78 = .ok (.getfield 140, 3) := by decide +kernel
theorem dX6_film_81 : decode cX6_film 81 = .ok (.invokevirtual 300, 3) := by decide +kernel
theorem dX6_film_84 : decode cX6_film 84 = .ok (.d2f, 1) := by decide +kernel
theorem dX6_film_85 : decode cX6_film 85 = .ok (.fcmp .l, 1) := by decide +kernel
theorem dX6_film_86 : decode cX6_film 86 = .ok (.ifCond .le 7, 3) := by decide +kernel
theorem dX6_film_89 : decode cX6_film 89 = .ok (.iconst 1, 1) := by decide +kernel
theorem dX6_film_90 : decode cX6_film 90 = .ok (.goto 4, 3) := by decide +kernel
theorem dX6_film_93 : decode cX6_film 93 = .ok (.iconst 0, 1) := by decide +kernel
theorem dX6_film_94 : decode cX6_film 94 = .ok (.ireturn, 1) := by decide +kernel
theorem dX6_film_95 : decode cX6_film 95 = .ok (.iconst (-1), 1) := by decide +kernel
theorem dX6_film_96 : decode cX6_film 96 = .ok (.ireturn, 1) := by decide +kernel
theorem dX6_sumFilm_0 : decode cX6_sumFilm 0 = .ok (.iload_n 1, 1) := by decide +kernel
theorem dX6_sumFilm_1 : decode cX6_sumFilm 1 = .ok (.ifCond .lt 8, 3) := by decide +kernel
theorem dX6_sumFilm_4 : decode cX6_sumFilm 4 = .ok (.iload_n 1, 1) := by decide +kernel
theorem dX6_sumFilm_5 : decode cX6_sumFilm 5 = .ok (.iconst 1, 1) := by decide +kernel
theorem dX6_sumFilm_6 : decode cX6_sumFilm 6 = .ok (.if_icmp .le 7, 3) := by decide +kernel
theorem dX6_sumFilm_9 : decode cX6_sumFilm 9 = .ok (.ldc2_w 174, 3) := by decide +kernel
theorem dX6_sumFilm_12 : decode cX6_sumFilm 12 = .ok (.lreturn, 1) := by decide +kernel
theorem dX6_sumFilm_13 : decode cX6_sumFilm 13 = .ok (.fconst 0, 1) := by decide +kernel
theorem dX6_sumFilm_14 : decode cX6_sumFilm 14 = .ok (.fstore_n 2, 1) := by decide +kernel
theorem dX6_sumFilm_15 : decode cX6_sumFilm 15 = .ok (.dconst 0, 1) := by decide +kernel
theorem dX6_sumFilm_16 : decode cX6_sumFilm 16 = .ok (.dstore_n 3, 1) := by decide +kernel
theorem dX6_sumFilm_17 : decode cX6_sumFilm 17 = .ok (.iconst 0, 1) := by decide +kernel
theorem dX6_sumFilm_18 : decode cX6_sumFilm 18 = .ok (.istore 5, 2) := by decide +kernel
theorem dX6_sumFilm_20 : decode cX6_sumFilm 20 = .ok (.iload 5, 2) := by decide +kernel
theorem dX6_sumFilm_22 : decode cX6_sumFilm 22 = .ok (.bipush 8, 2) := by decide +kernel
theorem dX6_sumFilm_24 : decode cX6_sumFilm 24 = .ok (.if_icmp .ge 36, 3) := by decide +kernel
theorem dX6_sumFilm_27 : decode cX6_sumFilm 27 = .ok (.fload_n 2, 1) := by decide +kernel
theorem dX6_sumFilm_28 : decode cX6_sumFilm 28 = .ok (.aload_n 0, 1) := by decide +kernel
theorem dX6_sumFilm_29 : decode cX6_sumFilm 29 = .ok (.getfield 12, 3) := by decide +kernel
theorem dX6_sumFilm_32 : decode cX6_sumFilm 32 = .ok (.getfield 315, 3) := by decide +kernel
theorem dX6_sumFilm_35 : decode cX6_sumFilm 35 = .ok (.iload 5, 2) := by decide +kernel
theorem dX6_sumFilm_37 : decode cX6_sumFilm 37 = .ok (.faload, 1) := by decide +kernel
theorem dX6_sumFilm_38 : decode cX6_sumFilm 38 = .ok (.fadd, 1) := by decide +kernel
theorem dX6_sumFilm_39 : decode cX6_sumFilm 39 = .ok (.fstore_n 2, 1) := by decide +kernel
theorem dX6_sumFilm_40 : decode cX6_sumFilm 40 = .ok (.dload_n 3, 1) := by decide +kernel
theorem dX6_sumFilm_41 : decode cX6_sumFilm 41 = .ok (.aload_n 0, 1) := by decide +kernel
theorem dX6_sumFilm_42 : decode cX6_sumFilm 42 = .ok (.getfield 12, 3) := by decide +kernel
theorem dX6_sumFilm_45 : decode cX6_sumFilm 45 = .ok (.getfield 315, 3) := by decide +kernel
theorem dX6_sumFilm_48 : decode cX6_sumFilm 48 = .ok (.iload 5, 2) := by decide +kernel
theorem dX6_sumFilm_50 : decode cX6_sumFilm 50 = .ok (.faload, 1) := by decide +kernel
theorem dX6_sumFilm_51 : decode cX6_sumFilm 51 = .ok (.f2d, 1) := by decide +kernel
theorem dX6_sumFilm_52 : decode cX6_sumFilm 52 = .ok (.dadd, 1) := by decide +kernel
theorem dX6_sumFilm_53 : decode cX6_sumFilm 53 = .ok (.dstore_n 3, 1) := by decide +kernel
theorem dX6_sumFilm_54 : decode cX6_sumFilm 54 = .ok (.iinc 5 1, 3) := by decide +kernel
theorem dX6_sumFilm_57 : decode cX6_sumFilm 57 = .ok (.goto (-37), 3) := by decide +kernel
theorem dX6_sumFilm_60 : decode cX6_sumFilm 60 = .ok (.iload_n 1, 1) := by decide +kernel
theorem dX6_sumFilm_61 : decode cX6_sumFilm 61 = .ok (.ifCond .ne 11, 3) := by decide +kernel
theorem dX6_sumFilm_64 : decode cX6_sumFilm 64 = .ok (.fload_n 2, 1) := by decide +kernel
theorem dX6_sumFilm_65 : decode cX6_sumFilm 65 = .ok (.invokestatic 304, 3) := by decide +kernel
theorem dX6_sumFilm_68 : decode cX6_sumFilm 68 = .ok (.i2l, 1) := by decide +kernel
theorem dX6_sumFilm_69 : decode cX6_sumFilm 69 = .ok (.goto 7, 3) := by decide +kernel
theorem dX6_sumFilm_72 : decode cX6_sumFilm 72 = .ok (.dload_n 3, 1) := by decide +kernel
theorem dX6_sumFilm_73 : decode cX6_sumFilm 73 = .ok (.invokestatic 308, 3) := by decide +kernel
theorem dX6_sumFilm_76 : decode cX6_sumFilm 76 = .ok (.lreturn, 1) := by decide +kernel
theorem dX6_store_0 : decode cX6_store 0 = .ok (.iload_n 1, 1) := by decide +kernel
theorem dX6_store_1 : decode cX6_store 1 = .ok (.invokestatic 321, 3) := by decide +kernel
theorem dX6_store_4 : decode cX6_store 4 = .ok (.ifCond .eq 14, 3) := by decide +kernel
theorem dX6_store_7 : decode cX6_store 7 = .ok (.aload_n 0, 1) := by decide +kernel
theorem dX6_store_8 : decode cX6_store 8 = .ok (.getfield 12, 3) := by decide +kernel
theorem dX6_store_11 : decode cX6_store 11 = .ok (.iload_n 3, 1) := by decide +kernel
theorem dX6_store_12 : decode cX6_store 12 = .ok (.invokevirtual 111, 3) := by decide +kernel
theorem dX6_store_15 : decode cX6_store 15 = .ok (.ifCond .ne 5, 3) := by decide +kernel
theorem dX6_store_18 : decode cX6_store 18 = .ok (.iconst (-1), 1) := by decide +kernel
theorem dX6_store_19 : decode cX6_store 19 = .ok (.ireturn, 1) := by decide +kernel
theorem dX6_store_20 : decode cX6_store 20 = .ok (.iload_n 2, 1) := by decide +kernel
theorem dX6_store_21 : decode cX6_store 21 = .ok (.invokestatic 324, 3) := by decide +kernel
theorem dX6_store_24 : decode cX6_store 24 = .ok (.ifCond .ne 6, 3) := by decide +kernel
theorem dX6_store_27 : decode cX6_store 27 = .ok (.bipush (-13), 2) := by decide +kernel
theorem dX6_store_29 : decode cX6_store 29 = .ok (.ireturn, 1) := by decide +kernel
theorem dX6_store_30 : decode cX6_store 30 = .ok (.aload_n 0, 1) := by decide +kernel
theorem dX6_store_31 : decode cX6_store 31 = .ok (.getfield 12, 3) := by decide +kernel
theorem dX6_store_34 : decode cX6_store 34 = .ok (.getfield 327, 3) := by decide +kernel
theorem dX6_store_37 : decode cX6_store 37 = .ok (.iload_n 1, 1) := by decide +kernel
theorem dX6_store_38 : decode cX6_store 38 = .ok (.iaload, 1) := by decide +kernel
theorem dX6_store_39 : decode cX6_store 39 = .ok (.aload_n 0, 1) := by decide +kernel
theorem dX6_store_40 : decode cX6_store 40 = .ok (.getfield 12, 3) := by decide +kernel
theorem dX6_store_43 : decode cX6_store 43 = .ok (.getfield 118, 3) := by decide +kernel
theorem dX6_store_46 : decode cX6_store 46 = .ok (.iload_n 3, 1) := by decide +kernel
theorem dX6_store_47 : decode cX6_store 47 = .ok (.iaload, 1) := by decide +kernel
theorem dX6_store_48 : decode cX6_store 48 = .ok (.invokestatic 144, 3) := by decide +kernel
theorem dX6_store_51 : decode cX6_store 51 = .ok (.invokestatic 330, 3) := by decide +kernel
theorem dX6_store_54 : decode cX6_store 54 = .ok (.ifCond .ne 6, 3) := by decide +kernel
theorem dX6_store_57 : decode cX6_store 57 = .ok (.bipush (-16), 2) := by decide +kernel
theorem dX6_store_59 : decode cX6_store 59 = .ok (.ireturn, 1) := by decide +kernel
theorem dX6_store_60 : decode cX6_store 60 = .ok (.aload_n 0, 1) := by decide +kernel
theorem dX6_store_61 : decode cX6_store 61 = .ok (.getfield 12, 3) := by decide +kernel
theorem dX6_store_64 : decode cX6_store 64 = .ok (.getfield 333, 3) := by decide +kernel
theorem dX6_store_67 : decode cX6_store 67 = .ok (.iload_n 1, 1) := by decide +kernel
theorem dX6_store_68 : decode cX6_store 68 = .ok (.aaload, 1) := by decide +kernel
theorem dX6_store_69 : decode cX6_store 69 = .ok (.iload_n 2, 1) := by decide +kernel
theorem dX6_store_70 : decode cX6_store 70 = .ok (.aload_n 0, 1) := by decide +kernel
theorem dX6_store_71 : decode cX6_store 71 = .ok (.getfield 12, 3) := by decide +kernel
theorem dX6_store_74 : decode cX6_store 74 = .ok (.getfield 118, 3) := by decide +kernel
theorem dX6_store_77 : decode cX6_store 77 = .ok (.iload_n 3, 1) := by decide +kernel
theorem dX6_store_78 : decode cX6_store 78 = .ok (.iaload, 1) := by decide +kernel
theorem dX6_store_79 : decode cX6_store 79 = .ok (.iastore, 1) := by decide +kernel
theorem dX6_store_80 : decode cX6_store 80 = .ok (.iconst 1, 1) := by decide +kernel
theorem dX6_store_81 : decode cX6_store 81 = .ok (.ireturn, 1) := by decide +kernel
theorem dX6_empty_0 : decode cX6_empty 0 = .ok (.aload_n 0, 1) := by decide +kernel
theorem dX6_empty_1 : decode cX6_empty 1 = .ok (.iload_n 1, 1) := by decide +kernel
theorem dX6_empty_2 : decode cX6_empty 2 = .ok (.iload_n 2, 1) := by decide +kernel
theorem dX6_empty_3 : decode cX6_empty 3 = .ok (.invokevirtual 337, 3) := by decide +kernel
theorem dX6_empty_6 : decode cX6_empty 6 = .ok (.istore_n 3, 1) := by decide +kernel
theorem dX6_empty_7 : decode cX6_empty 7 = .ok (.iload_n 3, 1) := by decide +kernel
theorem dX6_empty_8 : decode cX6_empty 8 = .ok (.ifCond .lt 15, 3) := by decide +kernel
theorem dX6_empty_11 : decode cX6_empty 11 = .ok (.aload_n 0, 1) := by decide +kernel
theorem dX6_empty_12 : decode cX6_empty 12 = .ok (.getfield 12, 3) := by decide +kernel
theorem dX6_empty_15 : decode cX6_empty 15 = .ok (.getfield 333, 3) := by decide +kernel
theorem dX6_empty_18 : decode cX6_empty 18 = .ok (.iload_n 1, 1) := by decide +kernel
theorem dX6_empty_19 : decode cX6_empty 19 = .ok (.aaload, 1) := by decide +kernel
theorem dX6_empty_20 : decode cX6_empty 20 = .ok (.iload_n 2, 1) := by decide +kernel
theorem dX6_empty_21 : decode cX6_empty 21 = .ok (.iconst (-1), 1) := by decide +kernel
theorem dX6_empty_22 : decode cX6_empty 22 = .ok (.iastore, 1) := by decide +kernel
theorem dX6_empty_23 : decode cX6_empty 23 = .ok (.iload_n 3, 1) := by decide +kernel
theorem dX6_empty_24 : decode cX6_empty 24 = .ok (.ireturn, 1) := by decide +kernel
theorem dX6_fetch_0 : decode cX6_fetch 0 = .ok (.aload_n 0, 1) := by decide +kernel
theorem dX6_fetch_1 : decode cX6_fetch 1 = .ok (.iload_n 1, 1) := by decide +kernel
theorem dX6_fetch_2 : decode cX6_fetch 2 = .ok (.iload_n 2, 1) := by decide +kernel
theorem dX6_fetch_3 : decode cX6_fetch 3 = .ok (.invokevirtual 337, 3) := by decide +kernel
theorem dX6_fetch_6 : decode cX6_fetch 6 = .ok (.istore_n 3, 1) := by decide +kernel
theorem dX6_fetch_7 : decode cX6_fetch 7 = .ok (.iload_n 3, 1) := by decide +kernel
theorem dX6_fetch_8 : decode cX6_fetch 8 = .ok (.ifCond .ge 7, 3) := by decide +kernel
theorem dX6_fetch_11 : decode cX6_fetch 11 = .ok (.iload_n 3, 1) := by decide +kernel
theorem dX6_fetch_12 : decode cX6_fetch 12 = .ok (.goto 11, 3) := by decide +kernel
theorem dX6_fetch_15 : decode cX6_fetch 15 = .ok (.aload_n 0, 1) := by decide +kernel
theorem dX6_fetch_16 : decode cX6_fetch 16 = .ok (.getfield 12, 3) := by decide +kernel
theorem dX6_fetch_19 : decode cX6_fetch 19 = .ok (.iload_n 3, 1) := by decide +kernel
theorem dX6_fetch_20 : decode cX6_fetch 20 = .ok (.invokevirtual 107, 3) := by decide +kernel
theorem dX6_fetch_23 : decode cX6_fetch 23 = .ok (.ireturn, 1) := by decide +kernel
theorem dX6_rack_0 : decode cX6_rack 0 = .ok (.iload_n 1, 1) := by decide +kernel
theorem dX6_rack_1 : decode cX6_rack 1 = .ok (.invokestatic 321, 3) := by decide +kernel
theorem dX6_rack_4 : decode cX6_rack 4 = .ok (.ifCond .eq 18, 3) := by decide +kernel
theorem dX6_rack_7 : decode cX6_rack 7 = .ok (.iload_n 2, 1) := by decide +kernel
theorem dX6_rack_8 : decode cX6_rack 8 = .ok (.iconst (-1), 1) := by decide +kernel
theorem dX6_rack_9 : decode cX6_rack 9 = .ok (.if_icmp .ne 13, 3) := by decide +kernel
theorem dX6_rack_12 : decode cX6_rack 12 = .ok (.aload_n 0, 1) := by decide +kernel
theorem dX6_rack_13 : decode cX6_rack 13 = .ok (.getfield 12, 3) := by decide +kernel
theorem dX6_rack_16 : decode cX6_rack 16 = .ok (.getfield 327, 3) := by decide +kernel
theorem dX6_rack_19 : decode cX6_rack 19 = .ok (.iload_n 1, 1) := by decide +kernel
theorem dX6_rack_20 : decode cX6_rack 20 = .ok (.iaload, 1) := by decide +kernel
theorem dX6_rack_21 : decode cX6_rack 21 = .ok (.ireturn, 1) := by decide +kernel
theorem dX6_rack_22 : decode cX6_rack 22 = .ok (.aload_n 0, 1) := by decide +kernel
theorem dX6_rack_23 : decode cX6_rack 23 = .ok (.iload_n 1, 1) := by decide +kernel
theorem dX6_rack_24 : decode cX6_rack 24 = .ok (.iload_n 2, 1) := by decide +kernel
theorem dX6_rack_25 : decode cX6_rack 25 = .ok (.invokevirtual 337, 3) := by decide +kernel
theorem dX6_rack_28 : decode cX6_rack 28 = .ok (.ireturn, 1) := by decide +kernel
theorem dX6_copy_0 : decode cX6_copy 0 = .ok (.iload_n 1, 1) := by decide +kernel
theorem dX6_copy_1 : decode cX6_copy 1 = .ok (.invokestatic 321, 3) := by decide +kernel
theorem dX6_copy_4 : decode cX6_copy 4 = .ok (.ifCond .eq 10, 3) := by decide +kernel
theorem dX6_copy_7 : decode cX6_copy 7 = .ok (.iload_n 2, 1) := by decide +kernel
theorem dX6_copy_8 : decode cX6_copy 8 = .ok (.invokestatic 321, 3) := by decide +kernel
theorem dX6_copy_11 : decode cX6_copy 11 = .ok (.ifCond .ne 5, 3) := by decide +kernel
theorem dX6_copy_14 : decode cX6_copy 14 = .ok (.iconst (-1), 1) := by decide +kernel
theorem dX6_copy_15 : decode cX6_copy 15 = .ok (.ireturn, 1) := by decide +kernel
theorem dX6_copy_16 : decode cX6_copy 16 = .ok (.aload_n 0, 1) := by decide +kernel
theorem dX6_copy_17 : decode cX6_copy 17 = .ok (.getfield 12, 3) := by decide +kernel
theorem dX6_copy_20 : decode cX6_copy 20 = .ok (.getfield 327, 3) := by decide +kernel
theorem dX6_copy_23 : decode cX6_copy 23 = .ok (.iload_n 2, 1) := by decide +kernel
theorem dX6_copy_24 : decode cX6_copy 24 = .ok (.aload_n 0, 1) := by decide +kernel
theorem dX6_copy_25 : decode cX6_copy 25 = .ok (.getfield 12, 3) := by decide +kernel
theorem dX6_copy_28 : decode cX6_copy 28 = .ok (.getfield 327, 3) := by decide +kernel
theorem dX6_copy_31 : decode cX6_copy 31 = .ok (.iload_n 1, 1) := by decide +kernel
theorem dX6_copy_32 : decode cX6_copy 32 = .ok (.iaload, 1) := by decide +kernel
theorem dX6_copy_33 : decode cX6_copy 33 = .ok (.iastore, 1) := by decide +kernel
theorem dX6_copy_34 : decode cX6_copy 34 = .ok (.iconst 0, 1) := by decide +kernel
theorem dX6_copy_35 : decode cX6_copy 35 = .ok (.istore_n 3, 1) := by decide +kernel
theorem dX6_copy_36 : decode cX6_copy 36 = .ok (.iload_n 3, 1) := by decide +kernel
theorem dX6_copy_37 : decode cX6_copy 37 = .ok (.iconst 4, 1) := by decide +kernel
theorem dX6_copy_38 : decode cX6_copy 38 = .ok (.if_icmp .ge 31, 3) := by decide +kernel
theorem dX6_copy_41 : decode cX6_copy 41 = .ok (.aload_n 0, 1) := by decide +kernel
theorem dX6_copy_42 : decode cX6_copy 42 = .ok (.getfield 12, 3) := by decide +kernel
theorem dX6_copy_45 : decode cX6_copy 45 = .ok (.getfield 333, 3) := by decide +kernel
theorem dX6_copy_48 : decode cX6_copy 48 = .ok (.iload_n 2, 1) := by decide +kernel
theorem dX6_copy_49 : decode cX6_copy 49 = .ok (.aaload, 1) := by decide +kernel
theorem dX6_copy_50 : decode cX6_copy 50 = .ok (.iload_n 3, 1) := by decide +kernel
theorem dX6_copy_51 : decode cX6_copy 51 = .ok (.aload_n 0, 1) := by decide +kernel
theorem dX6_copy_52 : decode cX6_copy 52 = .ok (.getfield 12, 3) := by decide +kernel
theorem dX6_copy_55 : decode cX6_copy 55 = .ok (.getfield 333, 3) := by decide +kernel
theorem dX6_copy_58 : decode cX6_copy 58 = .ok (.iload_n 1, 1) := by decide +kernel
theorem dX6_copy_59 : decode cX6_copy 59 = .ok (.aaload, 1) := by decide +kernel
theorem dX6_copy_60 : decode cX6_copy 60 = .ok (.iload_n 3, 1) := by decide +kernel
theorem dX6_copy_61 : decode cX6_copy 61 = .ok (.iaload, 1) := by decide +kernel
theorem dX6_copy_62 : decode cX6_copy 62 = .ok (.iastore, 1) := by decide +kernel
theorem dX6_copy_63 : decode cX6_copy 63 = .ok (.iinc 3 1, 3) := by decide +kernel
theorem dX6_copy_66 : decode cX6_copy 66 = .ok (.goto (-30), 3) := by decide +kernel
theorem dX6_copy_69 : decode cX6_copy 69 = .ok (.aload_n 0, 1) := by decide +kernel
theorem dX6_copy_70 : decode cX6_copy 70 = .ok (.getfield 12, 3) := by decide +kernel
theorem dX6_copy_73 : decode cX6_copy 73 = .ok (.iload_n 2, 1) := by decide +kernel
theorem dX6_copy_74 : decode cX6_copy 74 = .ok (.invokevirtual 340, 3) := by decide +kernel
theorem dX6_copy_77 : decode cX6_copy 77 = .ok (.ireturn, 1) := by decide +kernel
theorem dX6_feed_0 : decode cX6_feed 0 = .ok (.iload_n 1, 1) := by decide +kernel
theorem dX6_feed_1 : decode cX6_feed 1 = .ok (.iconst 1, 1) := by decide +kernel
theorem dX6_feed_2 : decode cX6_feed 2 = .ok (.if_icmp .lt 9, 3) := by decide +kernel
theorem dX6_feed_5 : decode cX6_feed 5 = .ok (.iload_n 1, 1) := by decide +kernel
theorem dX6_feed_6 : decode cX6_feed 6 = .ok (.bipush 127, 2) := by decide +kernel
theorem dX6_feed_8 : decode cX6_feed 8 = .ok (.if_icmp .le 6, 3) := by decide +kernel
theorem dX6_feed_11 : decode cX6_feed 11 = .ok (.bipush (-2), 2) := by decide +kernel
theorem dX6_feed_13 : decode cX6_feed 13 = .ok (.ireturn, 1) := by decide +kernel
theorem dX6_feed_14 : decode cX6_feed 14 = .ok (.aload_n 0, 1) := by decide +kernel
theorem dX6_feed_15 : decode cX6_feed 15 = .ok (.getfield 33, 3) := by decide +kernel
theorem dX6_feed_18 : decode cX6_feed 18 = .ok (.getfield 343, 3) := by decide +kernel
theorem dX6_feed_21 : decode cX6_feed 21 = .ok (.bipush 60, 2) := by decide +kernel
theorem dX6_feed_23 : decode cX6_feed 23 = .ok (.if_icmp .lt 6, 3) := by decide +kernel
theorem dX6_feed_26 : decode cX6_feed 26 = .ok (.bipush (-4), 2) := by decide +kernel
theorem dX6_feed_28 : decode cX6_feed 28 = .ok (.ireturn, 1) := by decide +kernel
theorem dX6_feed_29 : decode cX6_feed 29 = .ok (.aload_n 0, 1) := by decide +kernel
theorem dX6_feed_30 : decode cX6_feed 30 = .ok (.getfield 33, 3) := by decide +kernel
theorem dX6_feed_33 : decode cX6_feed 33 = .ok (.getfield 346, 3) := by decide +kernel
theorem dX6_feed_36 : decode cX6_feed 36 = .ok (.aload_n 0, 1) := by decide +kernel
theorem dX6_feed_37 : decode cX6_feed 37 = .ok (.getfield 33, 3) := by decide +kernel
theorem dX6_feed_40 : decode cX6_feed 40 = .ok (.getfield 343, 3) := by decide +kernel
theorem dX6_feed_43 : decode cX6_feed 43 = .ok (.iload_n 1, 1) := by decide +kernel
theorem dX6_feed_44 : decode cX6_feed 44 = .ok (.iastore, 1) := by decide +kernel
theorem dX6_feed_45 : decode cX6_feed 45 = .ok (.aload_n 0, 1) := by decide +kernel
theorem dX6_feed_46 : decode cX6_feed 46 = .ok (.getfield 33, 3) := by decide +kernel
theorem dX6_feed_49 : decode cX6_feed 49 = .ok (.dup, 1) := by decide +kernel
theorem dX6_feed_50 : decode cX6_feed 50 = .ok (.getfield 343, 3) := by decide +kernel
theorem dX6_feed_53 : decode cX6_feed 53 = .ok (.iconst 1, 1) := by decide +kernel
theorem dX6_feed_54 : decode cX6_feed 54 = .ok (.iadd, 1) := by decide +kernel
theorem dX6_feed_55 : decode cX6_feed 55 = .ok (.putfield 343, 3) := by decide +kernel
theorem dX6_feed_58 : decode cX6_feed 58 = .ok (.aload_n 0, 1) := by decide +kernel
theorem dX6_feed_59 : decode cX6_feed 59 = .ok (.getfield 33, 3) := by decide +kernel
theorem dX6_feed_62 : decode cX6_feed 62 = .ok (.getfield 343, 3) := by decide +kernel
theorem dX6_feed_65 : decode cX6_feed 65 = .ok (.ireturn, 1) := by decide +kernel
theorem dX6_wipe_0 : decode cX6_wipe 0 = .ok (.aload_n 0, 1) := by decide +kernel
theorem dX6_wipe_1 : decode cX6_wipe 1 = .ok (.getfield 33, 3) := by decide +kernel
theorem dX6_wipe_4 : decode cX6_wipe 4 = .ok (.getfield 343, 3) := by decide +kernel
theorem dX6_wipe_7 : decode cX6_wipe 7 = .ok (.istore_n 1, 1) := by decide +kernel
theorem dX6_wipe_8 : decode cX6_wipe 8 = .ok (.aload_n 0, 1) := by decide +kernel
theorem dX6_wipe_9 : decode cX6_wipe 9 = .ok (.getfield 33, 3) := by decide +kernel
theorem dX6_wipe_12 : decode cX6_wipe 12 = .ok (.iconst 0, 1) := by decide +kernel
theorem dX6_wipe_13 : decode cX6_wipe 13 = .ok (.putfield 343, 3) := by decide +kernel
theorem dX6_wipe_16 : decode cX6_wipe 16 = .ok (.iload_n 1, 1) := by decide +kernel
theorem dX6_wipe_17 : decode cX6_wipe 17 = .ok (.ireturn, 1) := by decide +kernel
theorem dX6_read_0 : decode cX6_read 0 = .ok (.aload_n 0, 1) := by decide +kernel
theorem dX6_read_1 : decode cX6_read 1 = .ok (.getfield 33, 3) := by decide +kernel
theorem dX6_read_4 : decode cX6_read 4 = .ok (.invokevirtual 349, 3) := by decide +kernel
theorem dX6_read_7 : decode cX6_read 7 = .ok (.istore_n 1, 1) := by decide +kernel
theorem dX6_read_8 : decode cX6_read 8 = .ok (.aload_n 0, 1) := by decide +kernel
theorem dX6_read_9 : decode cX6_read 9 = .ok (.getfield 33, 3) := by decide +kernel
theorem dX6_read_12 : decode cX6_read 12 = .ok (.iconst 0, 1) := by decide +kernel
theorem dX6_read_13 : decode cX6_read 13 = .ok (.putfield 343, 3) := by decide +kernel
theorem dX6_read_16 : decode cX6_read 16 = .ok (.iload_n 1, 1) := by decide +kernel
theorem dX6_read_17 : decode cX6_read 17 = .ok (.ifCond .ne 72, 3) := by decide +kernel
theorem dX6_read_20 : decode cX6_read 20 = .ok (.aload_n 0, 1) := by decide +kernel
theorem dX6_read_21 : decode cX6_read 21 = .ok (.getfield 40, 3) := by decide +kernel
theorem dX6_read_24 : decode cX6_read 24 = .ok (.invokevirtual 352, 3) := by decide +kernel
theorem dX6_read_27 : decode cX6_read 27 = .ok (.iconst 0, 1) := by decide +kernel
theorem dX6_read_28 : decode cX6_read 28 = .ok (.istore_n 2, 1) := by decide +kernel
theorem dX6_read_29 : decode cX6_read 29 = .ok (.iload_n 2, 1) := by decide +kernel
theorem dX6_read_30 : decode cX6_read 30 = .ok (.aload_n 0, 1) := by decide +kernel
theorem dX6_read_31 : decode cX6_read 31 = .ok (.getfield 33, 3) := by decide +kernel
theorem dX6_read_34 : decode cX6_read 34 = .ok (.getfield 353, 3) := by decide +kernel
theorem dX6_read_37 : decode cX6_read 37 = .ok (.if_icmp .ge 26, 3) := by decide +kernel
theorem dX6_read_40 : decode cX6_read 40 = .ok (.aload_n 0, 1) := by decide +kernel
theorem dX6_read_41 : decode cX6_read 41 = .ok (.getfield 40, 3) := by decide +kernel
theorem dX6_read_44 : decode cX6_read 44 = .ok (.iconst 2, 1) := by decide +kernel
theorem dX6_read_45 : decode cX6_read 45 = .ok (.aload_n 0, 1) := by decide +kernel
theorem dX6_read_46 : decode cX6_read 46 = .ok (.getfield 33, 3) := by decide +kernel
theorem dX6_read_49 : decode cX6_read 49 = .ok (.getfield 356, 3) := by decide +kernel
theorem dX6_read_52 : decode cX6_read 52 = .ok (.iload_n 2, 1) := by decide +kernel
theorem dX6_read_53 : decode cX6_read 53 = .ok (.iaload, 1) := by decide +kernel
theorem dX6_read_54 : decode cX6_read 54 = .ok (.invokevirtual 359, 3) := by decide +kernel
theorem dX6_read_57 : decode cX6_read 57 = .ok (.iinc 2 1, 3) := by decide +kernel
theorem dX6_read_60 : decode cX6_read 60 = .ok (.goto (-31), 3) := by decide +kernel
theorem dX6_read_63 : decode cX6_read 63 = .ok (.aload_n 0, 1) := by decide +kernel
theorem dX6_read_64 : decode cX6_read 64 = .ok (.getfield 40, 3) := by decide +kernel
theorem dX6_read_67 : decode cX6_read 67 = .ok (.iconst 1, 1) := by decide +kernel
theorem dX6_read_68 : decode cX6_read 68 = .ok (.aload_n 0, 1) := by decide +kernel
theorem dX6_read_69 : decode cX6_read 69 = .ok (.getfield 33, 3) := by decide +kernel
theorem dX6_read_72 : decode cX6_read 72 = .ok (.getfield 362, 3) := by decide +kernel
theorem dX6_read_75 : decode cX6_read 75 = .ok (.invokevirtual 359, 3) := by decide +kernel
theorem dX6_read_78 : decode cX6_read 78 = .ok (.bipush (-100), 2) := by decide +kernel
theorem dX6_read_80 : decode cX6_read 80 = .ok (.aload_n 0, 1) := by decide +kernel
theorem dX6_read_81 : decode cX6_read 81 = .ok (.getfield 33, 3) := by decide +kernel
theorem dX6_read_84 : decode cX6_read 84 = .ok (.getfield 362, 3) := by decide +kernel
theorem dX6_read_87 : decode cX6_read 87 = .ok (.isub, 1) := by decide +kernel
theorem dX6_read_88 : decode cX6_read 88 = .ok (.ireturn, 1) := by decide +kernel
theorem dX6_read_89 : decode cX6_read 89 = .ok (.aload_n 0, 1) := by decide +kernel
theorem dX6_read_90 : decode cX6_read 90 = .ok (.getfield 33, 3) := by decide +kernel
theorem dX6_read_93 : decode cX6_read 93 = .ok (.getfield 365, 3) := by decide +kernel
theorem dX6_read_96 : decode cX6_read 96 = .ok (.bipush 8, 2) := by decide +kernel
theorem dX6_read_98 : decode cX6_read 98 = .ok (.if_icmp .le 28, 3) := by decide +kernel
theorem dX6_read_101 : decode cX6_read 101 = .ok (.aload_n 0, 1) := by decide +kernel
theorem dX6_read_102 : decode cX6_read 102 = .ok (.getfield 40, 3) := by decide +kernel
theorem dX6_read_105 : decode cX6_read 105 = .ok (.invokevirtual 352, 3) := by decide +kernel
theorem dX6_read_108 : decode cX6_read 108 = .ok (.aload_n 0, 1) := by decide +kernel
theorem dX6_read_109 : decode cX6_read 109 = .ok (.getfield 40, 3) := by decide +kernel
theorem dX6_read_112 : decode cX6_read 112 = .ok (.iconst 3, 1) := by decide +kernel
theorem dX6_read_113 : decode cX6_read 113 = .ok (.aload_n 0, 1) := by decide +kernel
theorem dX6_read_114 : decode cX6_read 114 = .ok (.getfield 33, 3) := by decide +kernel
theorem dX6_read_117 : decode cX6_read 117 = .ok (.getfield 365, 3) := by decide +kernel
theorem dX6_read_120 : decode cX6_read 120 = .ok (.invokevirtual 359, 3) := by decide +kernel
theorem dX6_read_123 : decode cX6_read 123 = .ok (.bipush (-4), 2) := by decide +kernel
theorem dX6_read_125 : decode cX6_read 125 = .ok (.ireturn, 1) := by decide +kernel
theorem dX6_read_126 : decode cX6_read 126 = .ok (.aload_n 0, 1) := by decide +kernel
theorem dX6_read_127 : decode cX6_read 127 = .ok (.getfield 33, 3) := by decide +kernel
theorem dX6_read_130 : decode cX6_read 130 = .ok (.getfield 368, 3) := by decide +kernel
theorem dX6_read_133 : decode cX6_read 133 = .ok (.iconst 0, 1) := by decide +kernel
theorem dX6_read_134 : decode cX6_read 134 = .ok (.aload_n 0, 1) := by decide +kernel
theorem dX6_read_135 : decode cX6_read 135 = .ok (.getfield 12, 3) := by decide +kernel
theorem dX6_read_138 : decode cX6_read 138 = .ok (.getfield 118, 3) := by decide +kernel
theorem dX6_read_141 : decode cX6_read 141 = .ok (.iconst 0, 1) := by decide +kernel
theorem dX6_read_142 : decode cX6_read 142 = .ok (.bipush 8, 2) := by decide +kernel
theorem dX6_read_144 : decode cX6_read 144 = .ok (.invokestatic 371, 3) := by decide +kernel
theorem dX6_read_147 : decode cX6_read 147 = .ok (.aload_n 0, 1) := by decide +kernel
theorem dX6_read_148 : decode cX6_read 148 = .ok (.getfield 12, 3) := by decide +kernel
theorem dX6_read_151 : decode cX6_read 151 = .ok (.aload_n 0, 1) := by decide +kernel
theorem dX6_read_152 : decode cX6_read 152 = .ok (.getfield 33, 3) := by decide +kernel
theorem dX6_read_155 : decode cX6_read 155 = .ok (.getfield 365, 3) := by decide +kernel
theorem dX6_read_158 : decode cX6_read 158 = .ok (.putfield 140, 3) := by decide +kernel
theorem dX6_read_161 : decode cX6_read 161 = .ok (.aload_n 0, 1) := by decide +kernel
theorem dX6_read_162 : decode cX6_read 162 = .ok (.getfield 12, 3) := by decide +kernel
theorem dX6_read_165 : decode cX6_read 165 = .ok (.getfield 140, 3) := by decide +kernel
theorem dX6_read_168 : decode cX6_read 168 = .ok (.ireturn, 1) := by decide +kernel
theorem dX6_why_0 : decode cX6_why 0 = .ok (.iload_n 1, 1) := by decide +kernel
theorem dX6_why_1 : decode cX6_why 1 = .ok (.ifCond .lt 12, 3) := by decide +kernel
theorem dX6_why_4 : decode cX6_why 4 = .ok (.iload_n 2, 1) := by decide +kernel
theorem dX6_why_5 : decode cX6_why 5 = .ok (.ifCond .lt 8, 3) := by decide +kernel
theorem dX6_why_8 : decode cX6_why 8 = .ok (.iload_n 2, 1) := by decide +kernel
theorem dX6_why_9 : decode cX6_why 9 = .ok (.iconst 1, 1) := by decide +kernel
theorem dX6_why_10 : decode cX6_why 10 = .ok (.if_icmp .le 5, 3) := by decide +kernel
theorem dX6_why_13 : decode cX6_why 13 = .ok (.iconst (-1), 1) := by decide +kernel
theorem dX6_why_14 : decode cX6_why 14 = .ok (.ireturn, 1) := by decide +kernel
theorem dX6_why_15 : decode cX6_why 15 = .ok (.iload_n 1, 1) := by decide +kernel
theorem dX6_why_16 : decode cX6_why 16 = .ok (.aload_n 0, 1) := by decide +kernel
theorem dX6_why_17 : decode cX6_why 17 = .ok (.getfield 40, 3) := by decide +kernel
theorem dX6_why_20 : decode cX6_why 20 = .ok (.getfield 377, 3) := by decide +kernel
theorem dX6_why_23 : decode cX6_why 23 = .ok (.if_icmp .lt 6, 3) := by decide +kernel
theorem dX6_why_26 : decode cX6_why 26 = .ok (.bipush (-5), 2) := by decide +kernel
theorem dX6_why_28 : decode cX6_why 28 = .ok (.ireturn, 1) := by decide +kernel
theorem dX6_why_29 : decode cX6_why 29 = .ok (.iload_n 2, 1) := by decide +kernel
theorem dX6_why_30 : decode cX6_why 30 = .ok (.ifCond .ne 15, 3) := by decide +kernel
theorem dX6_why_33 : decode cX6_why 33 = .ok (.aload_n 0, 1) := by decide +kernel
theorem dX6_why_34 : decode cX6_why 34 = .ok (.getfield 40, 3) := by decide +kernel
theorem dX6_why_37 : decode cX6_why 37 = .ok (.getfield 378, 3) := by decide +kernel
theorem dX6_why_40 : decode cX6_why 40 = .ok (.iload_n 1, 1) := by decide +kernel
theorem dX6_why_41 : decode cX6_why 41 = .ok (.iaload, 1) := by decide +kernel
theorem dX6_why_42 : decode cX6_why 42 = .ok (.goto 12, 3) := by decide +kernel
theorem dX6_why_45 : decode cX6_why 45 = .ok (.aload_n 0, 1) := by decide +kernel
theorem dX6_why_46 : decode cX6_why 46 = .ok (.getfield 40, 3) := by decide +kernel
theorem dX6_why_49 : decode cX6_why 49 = .ok (.getfield 381, 3) := by decide +kernel
theorem dX6_why_52 : decode cX6_why 52 = .ok (.iload_n 1, 1) := by decide +kernel
theorem dX6_why_53 : decode cX6_why 53 = .ok (.iaload, 1) := by decide +kernel
theorem dX6_why_54 : decode cX6_why 54 = .ok (.ireturn, 1) := by decide +kernel
theorem dX6_spelled_0 : decode cX6_spelled 0 = .ok (.aload_n 0, 1) := by decide +kernel
theorem dX6_spelled_1 : decode cX6_spelled 1 = .ok (.invokevirtual 384, 3) := by decide +kernel
theorem dX6_spelled_4 : decode cX6_spelled 4 = .ok (.iload_n 1, 1) := by decide +kernel
theorem dX6_spelled_5 : decode cX6_spelled 5 = .ok (.iconst (-1), 1) := by decide +kernel
theorem dX6_spelled_6 : decode cX6_spelled 6 = .ok (.if_icmp .ne 11, 3) := by decide +kernel
theorem dX6_spelled_9 : decode cX6_spelled 9 = .ok (.aload_n 0, 1) := by decide +kernel
theorem dX6_spelled_10 : decode cX6_spelled 10 = .ok (.getfield 61, 3) := by decide +kernel
theorem dX6_spelled_13 : decode cX6_spelled 13 = .ok (.invokevirtual 387, 3) := by decide +kernel
theorem dX6_spelled_16 : decode cX6_spelled 16 = .ok (.ireturn, 1) := by decide +kernel
theorem dX6_spelled_17 : decode cX6_spelled 17 = .ok (.iload_n 1, 1) := by decide +kernel
theorem dX6_spelled_18 : decode cX6_spelled 18 = .ok (.ifCond .lt 25, 3) := by decide +kernel
theorem dX6_spelled_21 : decode cX6_spelled 21 = .ok (.iload_n 1, 1) := by decide +kernel
theorem dX6_spelled_22 : decode cX6_spelled 22 = .ok (.aload_n 0, 1) := by decide +kernel
theorem dX6_spelled_23 : decode cX6_spelled 23 = .ok (.getfield 61, 3) := by decide +kernel
theorem dX6_spelled_26 : decode cX6_spelled 26 = .ok (.invokevirtual 387, 3) := by decide +kernel
theorem dX6_spelled_29 : decode cX6_spelled 29 = .ok (.if_icmp .ge 14, 3) := by decide +kernel
theorem dX6_spelled_32 : decode cX6_spelled 32 = .ok (.aload_n 0, 1) := by decide +kernel
theorem dX6_spelled_33 : decode cX6_spelled 33 = .ok (.getfield 61, 3) := by decide +kernel
theorem dX6_spelled_36 : decode cX6_spelled 36 = .ok (.iload_n 1, 1) := by decide +kernel
theorem dX6_spelled_37 : decode cX6_spelled 37 = .ok (.invokevirtual 389, 3) := by decide +kernel
theorem dX6_spelled_40 : decode cX6_spelled 40 = .ok (.goto 4, 3) := by decide +kernel
theorem dX6_spelled_43 : decode cX6_spelled 43 = .ok (.iconst (-1), 1) := by decide +kernel
theorem dX6_spelled_44 : decode cX6_spelled 44 = .ok (.ireturn, 1) := by decide +kernel
theorem dX6_image_0 : decode cX6_image 0 = .ok (.aload_n 0, 1) := by decide +kernel
theorem dX6_image_1 : decode cX6_image 1 = .ok (.getfield 18, 3) := by decide +kernel
theorem dX6_image_4 : decode cX6_image 4 = .ok (.aload_n 0, 1) := by decide +kernel
theorem dX6_image_5 : decode cX6_image 5 = .ok (.getfield 12, 3) := by decide +kernel
theorem dX6_image_8 : decode cX6_image 8 = .ok (.invokevirtual 393, 3) := by decide +kernel
theorem dX6_image_11 : decode cX6_image 11 = .ok (.aload_n 0, 1) := by decide +kernel
theorem dX6_image_12 : decode cX6_image 12 = .ok (.iconst 1, 1) := by decide +kernel
theorem dX6_image_13 : decode cX6_image 13 = .ok (.putfield 396, 3) := by decide +kernel
theorem dX6_image_16 : decode cX6_image 16 = .ok (.aload_n 0, 1) := by decide +kernel
theorem dX6_image_17 : decode cX6_image 17 = .ok (.getfield 12, 3) := by decide +kernel
theorem dX6_image_20 : decode cX6_image 20 = .ok (.getfield 140, 3) := by decide +kernel
theorem dX6_image_23 : decode cX6_image 23 = .ok (.ireturn, 1) := by decide +kernel
theorem dX6_undo_0 : decode cX6_undo 0 = .ok (.aload_n 0, 1) := by decide +kernel
theorem dX6_undo_1 : decode cX6_undo 1 = .ok (.getfield 396, 3) := by decide +kernel
theorem dX6_undo_4 : decode cX6_undo 4 = .ok (.ifCond .ne 6, 3) := by decide +kernel
theorem dX6_undo_7 : decode cX6_undo 7 = .ok (.bipush (-3), 2) := by decide +kernel
theorem dX6_undo_9 : decode cX6_undo 9 = .ok (.ireturn, 1) := by decide +kernel
theorem dX6_undo_10 : decode cX6_undo 10 = .ok (.aload_n 0, 1) := by decide +kernel
theorem dX6_undo_11 : decode cX6_undo 11 = .ok (.getfield 12, 3) := by decide +kernel
theorem dX6_undo_14 : decode cX6_undo 14 = .ok (.aload_n 0, 1) := by decide +kernel
theorem dX6_undo_15 : decode cX6_undo 15 = .ok (.getfield 18, 3) := by decide +kernel
theorem dX6_undo_18 : decode cX6_undo 18 = .ok (.invokevirtual 393, 3) := by decide +kernel
theorem dX6_undo_21 : decode cX6_undo 21 = .ok (.aload_n 0, 1) := by decide +kernel
theorem dX6_undo_22 : decode cX6_undo 22 = .ok (.getfield 12, 3) := by decide +kernel
theorem dX6_undo_25 : decode cX6_undo 25 = .ok (.getfield 140, 3) := by decide +kernel
theorem dX6_undo_28 : decode cX6_undo 28 = .ok (.ireturn, 1) := by decide +kernel
theorem dX6_count_0 : decode cX6_count 0 = .ok (.iload_n 1, 1) := by decide +kernel
theorem dX6_count_1 : decode cX6_count 1 = .ok (.tableswitch 94 0 4 #[35, 43, 51, 59, 86], 35) := by decide +kernel
theorem dX6_count_36 : decode cX6_count 36 = .ok (.aload_n 0, 1) := by decide +kernel
theorem dX6_count_37 : decode cX6_count 37 = .ok (.getfield 12, 3) := by decide +kernel
theorem dX6_count_40 : decode cX6_count 40 = .ok (.getfield 140, 3) := by decide +kernel
theorem dX6_count_43 : decode cX6_count 43 = .ok (.ireturn, 1) := by decide +kernel
theorem dX6_count_44 : decode cX6_count 44 = .ok (.aload_n 0, 1) := by decide +kernel
theorem dX6_count_45 : decode cX6_count 45 = .ok (.getfield 33, 3) := by decide +kernel
theorem dX6_count_48 : decode cX6_count 48 = .ok (.getfield 343, 3) := by decide +kernel
theorem dX6_count_51 : decode cX6_count 51 = .ok (.ireturn, 1) := by decide +kernel
theorem dX6_count_52 : decode cX6_count 52 = .ok (.aload_n 0, 1) := by decide +kernel
theorem dX6_count_53 : decode cX6_count 53 = .ok (.getfield 40, 3) := by decide +kernel
theorem dX6_count_56 : decode cX6_count 56 = .ok (.getfield 377, 3) := by decide +kernel
theorem dX6_count_59 : decode cX6_count 59 = .ok (.ireturn, 1) := by decide +kernel
theorem dX6_count_60 : decode cX6_count 60 = .ok (.aload_n 0, 1) := by decide +kernel
theorem dX6_count_61 : decode cX6_count 61 = .ok (.getfield 12, 3) := by decide +kernel
theorem dX6_count_64 : decode cX6_count 64 = .ok (.iconst 0, 1) := by decide +kernel
theorem dX6_count_65 : decode cX6_count 65 = .ok (.invokevirtual 340, 3) := by decide +kernel
theorem dX6_count_68 : decode cX6_count 68 = .ok (.aload_n 0, 1) := by decide +kernel
theorem dX6_count_69 : decode cX6_count 69 = .ok (.getfield 12, 3) := by decide +kernel
theorem dX6_count_72 : decode cX6_count 72 = .ok (.iconst 1, 1) := by decide +kernel
theorem dX6_count_73 : decode cX6_count 73 = .ok (.invokevirtual 340, 3) := by decide +kernel
theorem dX6_count_76 : decode cX6_count 76 = .ok (.iadd, 1) := by decide +kernel
theorem dX6_count_77 : decode cX6_count 77 = .ok (.aload_n 0, 1) := by decide +kernel
theorem dX6_count_78 : decode cX6_count 78 = .ok (.getfield 12, 3) := by decide +kernel
theorem dX6_count_81 : decode cX6_count 81 = .ok (.iconst 2, 1) := by decide +kernel
theorem dX6_count_82 : decode cX6_count 82 = .ok (.invokevirtual 340, 3) := by decide +kernel
theorem dX6_count_85 : decode cX6_count 85 = .ok (.iadd, 1) := by decide +kernel
theorem dX6_count_86 : decode cX6_count 86 = .ok (.ireturn, 1) := by decide +kernel
theorem dX6_count_87 : decode cX6_count 87 = .ok (.aload_n 0, 1) := by decide +kernel
theorem dX6_count_88 : decode cX6_count 88 = .ok (.getfield 12, 3) := by decide +kernel
theorem dX6_count_91 : decode cX6_count 91 = .ok (.invokevirtual 400, 3) := by decide +kernel
theorem dX6_count_94 : decode cX6_count 94 = .ok (.ireturn, 1) := by decide +kernel
theorem dX6_count_95 : decode cX6_count 95 = .ok (.iconst (-1), 1) := by decide +kernel
theorem dX6_count_96 : decode cX6_count 96 = .ok (.ireturn, 1) := by decide +kernel
theorem dX6_isKind_0 : decode cX6_isKind 0 = .ok (.iload_n 0, 1) := by decide +kernel
theorem dX6_isKind_1 : decode cX6_isKind 1 = .ok (.ifCond .lt 13, 3) := by decide +kernel
theorem dX6_isKind_4 : decode cX6_isKind 4 = .ok (.iload_n 0, 1) := by decide +kernel
theorem dX6_isKind_5 : decode cX6_isKind 5 = .ok (.bipush 7, 2) := by decide +kernel
theorem dX6_isKind_7 : decode cX6_isKind 7 = .ok (.if_icmp .ge 7, 3) := by decide +kernel
theorem dX6_isKind_10 : decode cX6_isKind 10 = .ok (.iconst 1, 1) := by decide +kernel
theorem dX6_isKind_11 : decode cX6_isKind 11 = .ok (.goto 4, 3) := by decide +kernel
theorem dX6_isKind_14 : decode cX6_isKind 14 = .ok (.iconst 0, 1) := by decide +kernel
theorem dX6_isKind_15 : decode cX6_isKind 15 = .ok (.ireturn, 1) := by decide +kernel
theorem dX6_isAngle_0 : decode cX6_isAngle 0 = .ok (.iload_n 0, 1) := by decide +kernel
theorem dX6_isAngle_1 : decode cX6_isAngle 1 = .ok (.ifCond .lt 12, 3) := by decide +kernel
theorem dX6_isAngle_4 : decode cX6_isAngle 4 = .ok (.iload_n 0, 1) := by decide +kernel
theorem dX6_isAngle_5 : decode cX6_isAngle 5 = .ok (.iconst 4, 1) := by decide +kernel
theorem dX6_isAngle_6 : decode cX6_isAngle 6 = .ok (.if_icmp .ge 7, 3) := by decide +kernel
theorem dX6_isAngle_9 : decode cX6_isAngle 9 = .ok (.iconst 1, 1) := by decide +kernel
theorem dX6_isAngle_10 : decode cX6_isAngle 10 = .ok (.goto 4, 3) := by decide +kernel
theorem dX6_isAngle_13 : decode cX6_isAngle 13 = .ok (.iconst 0, 1) := by decide +kernel
theorem dX6_isAngle_14 : decode cX6_isAngle 14 = .ok (.ireturn, 1) := by decide +kernel
theorem dX6_isFigure_0 : decode cX6_isFigure 0 = .ok (.iload_n 0, 1) := by decide +kernel
theorem dX6_isFigure_1 : decode cX6_isFigure 1 = .ok (.ifCond .lt 13, 3) := by decide +kernel
theorem dX6_isFigure_4 : decode cX6_isFigure 4 = .ok (.iload_n 0, 1) := by decide +kernel
theorem dX6_isFigure_5 : decode cX6_isFigure 5 = .ok (.bipush 17, 2) := by decide +kernel
theorem dX6_isFigure_7 : decode cX6_isFigure 7 = .ok (.if_icmp .ge 7, 3) := by decide +kernel
theorem dX6_isFigure_10 : decode cX6_isFigure 10 = .ok (.iconst 1, 1) := by decide +kernel
theorem dX6_isFigure_11 : decode cX6_isFigure 11 = .ok (.goto 4, 3) := by decide +kernel
theorem dX6_isFigure_14 : decode cX6_isFigure 14 = .ok (.iconst 0, 1) := by decide +kernel
theorem dX6_isFigure_15 : decode cX6_isFigure 15 = .ok (.ireturn, 1) := by decide +kernel
theorem dX6_isLightPart_0 : decode cX6_isLightPart 0 = .ok (.iload_n 0, 1) := by decide +kernel
theorem dX6_isLightPart_1 : decode cX6_isLightPart 1 = .ok (.ifCond .lt 12, 3) := by decide +kernel
theorem dX6_isLightPart_4 : decode cX6_isLightPart 4 = .ok (.iload_n 0, 1) := by decide +kernel
theorem dX6_isLightPart_5 : decode cX6_isLightPart 5 = .ok (.iconst 5, 1) := by decide +kernel
theorem dX6_isLightPart_6 : decode cX6_isLightPart 6 = .ok (.if_icmp .ge 7, 3) := by decide +kernel
theorem dX6_isLightPart_9 : decode cX6_isLightPart 9 = .ok (.iconst 1, 1) := by decide +kernel
theorem dX6_isLightPart_10 : decode cX6_isLightPart 10 = .ok (.goto 4, 3) := by decide +kernel
theorem dX6_isLightPart_13 : decode cX6_isLightPart 13 = .ok (.iconst 0, 1) := by decide +kernel
theorem dX6_isLightPart_14 : decode cX6_isLightPart 14 = .ok (.ireturn, 1) := by decide +kernel
theorem dX6_isFractionPart_0 : decode cX6_isFractionPart 0 = .ok (.iload_n 0, 1) := by decide +kernel
theorem dX6_isFractionPart_1 : decode cX6_isFractionPart 1 = .ok (.ifCond .eq 8, 3) := by decide +kernel
theorem dX6_isFractionPart_4 : decode cX6_isFractionPart 4 = .ok (.iload_n 0, 1) := by decide +kernel
theorem dX6_isFractionPart_5 : decode cX6_isFractionPart 5 = .ok (.iconst 1, 1) := by decide +kernel
theorem dX6_isFractionPart_6 : decode cX6_isFractionPart 6 = .ok (.if_icmp .ne 7, 3) := by decide +kernel
theorem dX6_isFractionPart_9 : decode cX6_isFractionPart 9 = .ok (.iconst 1, 1) := by decide +kernel
theorem dX6_isFractionPart_10 : decode cX6_isFractionPart 10 = .ok (.goto 4, 3) := by decide +kernel
theorem dX6_isFractionPart_13 : decode cX6_isFractionPart 13 = .ok (.iconst 0, 1) := by decide +kernel
theorem dX6_isFractionPart_14 : decode cX6_isFractionPart 14 = .ok (.ireturn, 1) := by decide +kernel
theorem dX6_isList_0 : decode cX6_isList 0 = .ok (.iload_n 0, 1) := by decide +kernel
theorem dX6_isList_1 : decode cX6_isList 1 = .ok (.ifCond .lt 12, 3) := by decide +kernel
theorem dX6_isList_4 : decode cX6_isList 4 = .ok (.iload_n 0, 1) := by decide +kernel
theorem dX6_isList_5 : decode cX6_isList 5 = .ok (.iconst 3, 1) := by decide +kernel
theorem dX6_isList_6 : decode cX6_isList 6 = .ok (.if_icmp .ge 7, 3) := by decide +kernel
theorem dX6_isList_9 : decode cX6_isList 9 = .ok (.iconst 1, 1) := by decide +kernel
theorem dX6_isList_10 : decode cX6_isList 10 = .ok (.goto 4, 3) := by decide +kernel
theorem dX6_isList_13 : decode cX6_isList 13 = .ok (.iconst 0, 1) := by decide +kernel
theorem dX6_isList_14 : decode cX6_isList 14 = .ok (.ireturn, 1) := by decide +kernel
theorem dX6_isCell_0 : decode cX6_isCell 0 = .ok (.iload_n 0, 1) := by decide +kernel
theorem dX6_isCell_1 : decode cX6_isCell 1 = .ok (.ifCond .lt 13, 3) := by decide +kernel
theorem dX6_isCell_4 : decode cX6_isCell 4 = .ok (.iload_n 0, 1) := by decide +kernel
theorem dX6_isCell_5 : decode cX6_isCell 5 = .ok (.bipush 8, 2) := by decide +kernel
theorem dX6_isCell_7 : decode cX6_isCell 7 = .ok (.if_icmp .ge 7, 3) := by decide +kernel
theorem dX6_isCell_10 : decode cX6_isCell 10 = .ok (.iconst 1, 1) := by decide +kernel
theorem dX6_isCell_11 : decode cX6_isCell 11 = .ok (.goto 4, 3) := by decide +kernel
theorem dX6_isCell_14 : decode cX6_isCell 14 = .ok (.iconst 0, 1) := by decide +kernel
theorem dX6_isCell_15 : decode cX6_isCell 15 = .ok (.ireturn, 1) := by decide +kernel
theorem dX6_isRack_0 : decode cX6_isRack 0 = .ok (.iload_n 0, 1) := by decide +kernel
theorem dX6_isRack_1 : decode cX6_isRack 1 = .ok (.ifCond .lt 12, 3) := by decide +kernel
theorem dX6_isRack_4 : decode cX6_isRack 4 = .ok (.iload_n 0, 1) := by decide +kernel
theorem dX6_isRack_5 : decode cX6_isRack 5 = .ok (.iconst 3, 1) := by decide +kernel
theorem dX6_isRack_6 : decode cX6_isRack 6 = .ok (.if_icmp .ge 7, 3) := by decide +kernel
theorem dX6_isRack_9 : decode cX6_isRack 9 = .ok (.iconst 1, 1) := by decide +kernel
theorem dX6_isRack_10 : decode cX6_isRack 10 = .ok (.goto 4, 3) := by decide +kernel
theorem dX6_isRack_13 : decode cX6_isRack 13 = .ok (.iconst 0, 1) := by decide +kernel
theorem dX6_isRack_14 : decode cX6_isRack 14 = .ok (.ireturn, 1) := by decide +kernel
theorem dX6_isRackPlace_0 : decode cX6_isRackPlace 0 = .ok (.iload_n 0, 1) := by decide +kernel
theorem dX6_isRackPlace_1 : decode cX6_isRackPlace 1 = .ok (.ifCond .lt 12, 3) := by decide +kernel
theorem dX6_isRackPlace_4 : decode cX6_isRackPlace 4 = .ok (.iload_n 0, 1) := by decide +kernel
theorem dX6_isRackPlace_5 : decode cX6_isRackPlace 5 = .ok (.iconst 4, 1) := by decide +kernel
theorem dX6_isRackPlace_6 : decode cX6_isRackPlace 6 = .ok (.if_icmp .ge 7, 3) := by decide +kernel
theorem dX6_isRackPlace_9 : decode cX6_isRackPlace 9 = .ok (.iconst 1, 1) := by decide +kernel
theorem dX6_isRackPlace_10 : decode cX6_isRackPlace 10 = .ok (.goto 4, 3) := by decide +kernel
theorem dX6_isRackPlace_13 : decode cX6_isRackPlace 13 = .ok (.iconst 0, 1) := by decide +kernel
theorem dX6_isRackPlace_14 : decode cX6_isRackPlace 14 = .ok (.ireturn, 1) := by decide +kernel
theorem dX6_isBehind_0 : decode cX6_isBehind 0 = .ok (.iload_n 1, 1) := by decide +kernel
theorem dX6_isBehind_1 : decode cX6_isBehind 1 = .ok (.ifCond .lt 18, 3) := by decide +kernel
theorem dX6_isBehind_4 : decode cX6_isBehind 4 = .ok (.iload_n 1, 1) := by decide +kernel
theorem dX6_isBehind_5 : decode cX6_isBehind 5 = .ok (.aload_n 0, 1) := by decide +kernel
theorem dX6_isBehind_6 : decode cX6_isBehind 6 = .ok (.getfield 12, 3) := by decide +kernel
theorem dX6_isBehind_9 : decode cX6_isBehind 9 = .ok (.getfield 140, 3) := by decide +kernel
theorem dX6_isBehind_12 : decode cX6_isBehind 12 = .ok (.if_icmp .gt 7, 3) := by decide +kernel
theorem dX6_isBehind_15 : decode cX6_isBehind 15 = .ok (.iconst 1, 1) := by decide +kernel
theorem dX6_isBehind_16 : decode cX6_isBehind 16 = .ok (.goto 4, 3) := by decide +kernel
theorem dX6_isBehind_19 : decode cX6_isBehind 19 = .ok (.iconst 0, 1) := by decide +kernel
theorem dX6_isBehind_20 : decode cX6_isBehind 20 = .ok (.ireturn, 1) := by decide +kernel
theorem dX6_codeOf_0 : decode cX6_codeOf 0 = .ok (.sipush 1000, 3) := by decide +kernel
theorem dX6_codeOf_3 : decode cX6_codeOf 3 = .ok (.iload_n 0, 1) := by decide +kernel
theorem dX6_codeOf_4 : decode cX6_codeOf 4 = .ok (.imul, 1) := by decide +kernel
theorem dX6_codeOf_5 : decode cX6_codeOf 5 = .ok (.bipush 100, 2) := by decide +kernel
theorem dX6_codeOf_7 : decode cX6_codeOf 7 = .ok (.iload_n 1, 1) := by decide +kernel
theorem dX6_codeOf_8 : decode cX6_codeOf 8 = .ok (.imul, 1) := by decide +kernel
theorem dX6_codeOf_9 : decode cX6_codeOf 9 = .ok (.iadd, 1) := by decide +kernel
theorem dX6_codeOf_10 : decode cX6_codeOf 10 = .ok (.iload_n 2, 1) := by decide +kernel
theorem dX6_codeOf_11 : decode cX6_codeOf 11 = .ok (.iadd, 1) := by decide +kernel
theorem dX6_codeOf_12 : decode cX6_codeOf 12 = .ok (.ireturn, 1) := by decide +kernel
theorem dX6_kindOf_0 : decode cX6_kindOf 0 = .ok (.iload_n 0, 1) := by decide +kernel
theorem dX6_kindOf_1 : decode cX6_kindOf 1 = .ok (.sipush 1000, 3) := by decide +kernel
theorem dX6_kindOf_4 : decode cX6_kindOf 4 = .ok (.idiv, 1) := by decide +kernel
theorem dX6_kindOf_5 : decode cX6_kindOf 5 = .ok (.ireturn, 1) := by decide +kernel
theorem dX6_angleOf_0 : decode cX6_angleOf 0 = .ok (.iload_n 0, 1) := by decide +kernel
theorem dX6_angleOf_1 : decode cX6_angleOf 1 = .ok (.bipush 100, 2) := by decide +kernel
theorem dX6_angleOf_3 : decode cX6_angleOf 3 = .ok (.idiv, 1) := by decide +kernel
theorem dX6_angleOf_4 : decode cX6_angleOf 4 = .ok (.bipush 10, 2) := by decide +kernel
theorem dX6_angleOf_6 : decode cX6_angleOf 6 = .ok (.irem, 1) := by decide +kernel
theorem dX6_angleOf_7 : decode cX6_angleOf 7 = .ok (.ireturn, 1) := by decide +kernel
theorem dX6_figureOf_0 : decode cX6_figureOf 0 = .ok (.iload_n 0, 1) := by decide +kernel
theorem dX6_figureOf_1 : decode cX6_figureOf 1 = .ok (.bipush 100, 2) := by decide +kernel
theorem dX6_figureOf_3 : decode cX6_figureOf 3 = .ok (.irem, 1) := by decide +kernel
theorem dX6_figureOf_4 : decode cX6_figureOf 4 = .ok (.ireturn, 1) := by decide +kernel
theorem dX6_withAngle_0 : decode cX6_withAngle 0 = .ok (.iload_n 0, 1) := by decide +kernel
theorem dX6_withAngle_1 : decode cX6_withAngle 1 = .ok (.invokestatic 144, 3) := by decide +kernel
theorem dX6_withAngle_4 : decode cX6_withAngle 4 = .ok (.iload_n 1, 1) := by decide +kernel
theorem dX6_withAngle_5 : decode cX6_withAngle 5 = .ok (.iload_n 0, 1) := by decide +kernel
theorem dX6_withAngle_6 : decode cX6_withAngle 6 = .ok (.invokestatic 150, 3) := by decide +kernel
theorem dX6_withAngle_9 : decode cX6_withAngle 9 = .ok (.invokestatic 103, 3) := by decide +kernel
theorem dX6_withAngle_12 : decode cX6_withAngle 12 = .ok (.ireturn, 1) := by decide +kernel
theorem dX6_isSheetOrPolar_0 : decode cX6_isSheetOrPolar 0 = .ok (.iload_n 0, 1) := by decide +kernel
theorem dX6_isSheetOrPolar_1 : decode cX6_isSheetOrPolar 1 = .ok (.iconst 2, 1) := by decide +kernel
theorem dX6_isSheetOrPolar_2 : decode cX6_isSheetOrPolar 2 = .ok (.if_icmp .eq 8, 3) := by decide +kernel
theorem dX6_isSheetOrPolar_5 : decode cX6_isSheetOrPolar 5 = .ok (.iload_n 0, 1) := by decide +kernel
theorem dX6_isSheetOrPolar_6 : decode cX6_isSheetOrPolar 6 = .ok (.iconst 3, 1) := by decide +kernel
theorem dX6_isSheetOrPolar_7 : decode cX6_isSheetOrPolar 7 = .ok (.if_icmp .ne 7, 3) := by decide +kernel
theorem dX6_isSheetOrPolar_10 : decode cX6_isSheetOrPolar 10 = .ok (.iconst 1, 1) := by decide +kernel
theorem dX6_isSheetOrPolar_11 : decode cX6_isSheetOrPolar 11 = .ok (.goto 4, 3) := by decide +kernel
theorem dX6_isSheetOrPolar_14 : decode cX6_isSheetOrPolar 14 = .ok (.iconst 0, 1) := by decide +kernel
theorem dX6_isSheetOrPolar_15 : decode cX6_isSheetOrPolar 15 = .ok (.ireturn, 1) := by decide +kernel
theorem dX6_isPlateOrRotator_0 : decode cX6_isPlateOrRotator 0 = .ok (.iload_n 0, 1) := by decide +kernel
theorem dX6_isPlateOrRotator_1 : decode cX6_isPlateOrRotator 1 = .ok (.iconst 4, 1) := by decide +kernel
theorem dX6_isPlateOrRotator_2 : decode cX6_isPlateOrRotator 2 = .ok (.if_icmp .eq 8, 3) := by decide +kernel
theorem dX6_isPlateOrRotator_5 : decode cX6_isPlateOrRotator 5 = .ok (.iload_n 0, 1) := by decide +kernel
theorem dX6_isPlateOrRotator_6 : decode cX6_isPlateOrRotator 6 = .ok (.iconst 5, 1) := by decide +kernel
theorem dX6_isPlateOrRotator_7 : decode cX6_isPlateOrRotator 7 = .ok (.if_icmp .ne 7, 3) := by decide +kernel
theorem dX6_isPlateOrRotator_10 : decode cX6_isPlateOrRotator 10 = .ok (.iconst 1, 1) := by decide +kernel
theorem dX6_isPlateOrRotator_11 : decode cX6_isPlateOrRotator 11 = .ok (.goto 4, 3) := by decide +kernel
theorem dX6_isPlateOrRotator_14 : decode cX6_isPlateOrRotator 14 = .ok (.iconst 0, 1) := by decide +kernel
theorem dX6_isPlateOrRotator_15 : decode cX6_isPlateOrRotator 15 = .ok (.ireturn, 1) := by decide +kernel
theorem dX6_alongOf_0 : decode cX6_alongOf 0 = .ok (.iload_n 0, 1) := by decide +kernel
theorem dX6_alongOf_1 : decode cX6_alongOf 1 = .ok (.invokestatic 144, 3) := by decide +kernel
theorem dX6_alongOf_4 : decode cX6_alongOf 4 = .ok (.iconst 3, 1) := by decide +kernel
theorem dX6_alongOf_5 : decode cX6_alongOf 5 = .ok (.if_icmp .ne 7, 3) := by decide +kernel
theorem dX6_alongOf_8 : decode cX6_alongOf 8 = .ok (.iconst 4, 1) := by decide +kernel
theorem dX6_alongOf_9 : decode cX6_alongOf 9 = .ok (.goto 9, 3) := by decide +kernel
theorem dX6_alongOf_12 : decode cX6_alongOf 12 = .ok (.iload_n 0, 1) := by decide +kernel
theorem dX6_alongOf_13 : decode cX6_alongOf 13 = .ok (.invokestatic 150, 3) := by decide +kernel
theorem dX6_alongOf_16 : decode cX6_alongOf 16 = .ok (.iconst 4, 1) := by decide +kernel
theorem dX6_alongOf_17 : decode cX6_alongOf 17 = .ok (.idiv, 1) := by decide +kernel
theorem dX6_alongOf_18 : decode cX6_alongOf 18 = .ok (.ireturn, 1) := by decide +kernel
theorem dX6_acrossOf_0 : decode cX6_acrossOf 0 = .ok (.iload_n 0, 1) := by decide +kernel
theorem dX6_acrossOf_1 : decode cX6_acrossOf 1 = .ok (.invokestatic 144, 3) := by decide +kernel
theorem dX6_acrossOf_4 : decode cX6_acrossOf 4 = .ok (.iconst 3, 1) := by decide +kernel
theorem dX6_acrossOf_5 : decode cX6_acrossOf 5 = .ok (.if_icmp .ne 7, 3) := by decide +kernel
theorem dX6_acrossOf_8 : decode cX6_acrossOf 8 = .ok (.iconst 0, 1) := by decide +kernel
theorem dX6_acrossOf_9 : decode cX6_acrossOf 9 = .ok (.goto 9, 3) := by decide +kernel
theorem dX6_acrossOf_12 : decode cX6_acrossOf 12 = .ok (.iload_n 0, 1) := by decide +kernel
theorem dX6_acrossOf_13 : decode cX6_acrossOf 13 = .ok (.invokestatic 150, 3) := by decide +kernel
theorem dX6_acrossOf_16 : decode cX6_acrossOf 16 = .ok (.iconst 4, 1) := by decide +kernel
theorem dX6_acrossOf_17 : decode cX6_acrossOf 17 = .ok (.irem, 1) := by decide +kernel
theorem dX6_acrossOf_18 : decode cX6_acrossOf 18 = .ok (.ireturn, 1) := by decide +kernel
theorem dX6_quartersOf_0 : decode cX6_quartersOf 0 = .ok (.iload_n 0, 1) := by decide +kernel
theorem dX6_quartersOf_1 : decode cX6_quartersOf 1 = .ok (.invokestatic 150, 3) := by decide +kernel
theorem dX6_quartersOf_4 : decode cX6_quartersOf 4 = .ok (.iconst 4, 1) := by decide +kernel
theorem dX6_quartersOf_5 : decode cX6_quartersOf 5 = .ok (.irem, 1) := by decide +kernel
theorem dX6_quartersOf_6 : decode cX6_quartersOf 6 = .ok (.ireturn, 1) := by decide +kernel
theorem dX6_backwards_0 : decode cX6_backwards 0 = .ok (.iload_n 0, 1) := by decide +kernel
theorem dX6_backwards_1 : decode cX6_backwards 1 = .ok (.invokestatic 144, 3) := by decide +kernel
theorem dX6_backwards_4 : decode cX6_backwards 4 = .ok (.iload_n 0, 1) := by decide +kernel
theorem dX6_backwards_5 : decode cX6_backwards 5 = .ok (.invokestatic 121, 3) := by decide +kernel
theorem dX6_backwards_8 : decode cX6_backwards 8 = .ok (.iconst 4, 1) := by decide +kernel
theorem dX6_backwards_9 : decode cX6_backwards 9 = .ok (.iload_n 0, 1) := by decide +kernel
theorem dX6_backwards_10 : decode cX6_backwards 10 = .ok (.invokestatic 162, 3) := by decide +kernel
theorem dX6_backwards_13 : decode cX6_backwards 13 = .ok (.isub, 1) := by decide +kernel
theorem dX6_backwards_14 : decode cX6_backwards 14 = .ok (.invokestatic 103, 3) := by decide +kernel
theorem dX6_backwards_17 : decode cX6_backwards 17 = .ok (.ireturn, 1) := by decide +kernel
theorem dX6_tellsAngle_0 : decode cX6_tellsAngle 0 = .ok (.iload_n 0, 1) := by decide +kernel
theorem dX6_tellsAngle_1 : decode cX6_tellsAngle 1 = .ok (.iconst 2, 1) := by decide +kernel
theorem dX6_tellsAngle_2 : decode cX6_tellsAngle 2 = .ok (.if_icmp .eq 13, 3) := by decide +kernel
theorem dX6_tellsAngle_5 : decode cX6_tellsAngle 5 = .ok (.iload_n 0, 1) := by decide +kernel
theorem dX6_tellsAngle_6 : decode cX6_tellsAngle 6 = .ok (.iconst 3, 1) := by decide +kernel
theorem dX6_tellsAngle_7 : decode cX6_tellsAngle 7 = .ok (.if_icmp .eq 8, 3) := by decide +kernel
theorem dX6_tellsAngle_10 : decode cX6_tellsAngle 10 = .ok (.iload_n 0, 1) := by decide +kernel
theorem dX6_tellsAngle_11 : decode cX6_tellsAngle 11 = .ok (.iconst 4, 1) := by decide +kernel
theorem dX6_tellsAngle_12 : decode cX6_tellsAngle 12 = .ok (.if_icmp .ne 7, 3) := by decide +kernel
theorem dX6_tellsAngle_15 : decode cX6_tellsAngle 15 = .ok (.iconst 1, 1) := by decide +kernel
theorem dX6_tellsAngle_16 : decode cX6_tellsAngle 16 = .ok (.goto 4, 3) := by decide +kernel
theorem dX6_tellsAngle_19 : decode cX6_tellsAngle 19 = .ok (.iconst 0, 1) := by decide +kernel
theorem dX6_tellsAngle_20 : decode cX6_tellsAngle 20 = .ok (.ireturn, 1) := by decide +kernel
theorem dX6_tellsFigure_0 : decode cX6_tellsFigure 0 = .ok (.iload_n 0, 1) := by decide +kernel
theorem dX6_tellsFigure_1 : decode cX6_tellsFigure 1 = .ok (.ifCond .eq 12, 3) := by decide +kernel
theorem dX6_tellsFigure_4 : decode cX6_tellsFigure 4 = .ok (.iload_n 0, 1) := by decide +kernel
theorem dX6_tellsFigure_5 : decode cX6_tellsFigure 5 = .ok (.iconst 3, 1) := by decide +kernel
theorem dX6_tellsFigure_6 : decode cX6_tellsFigure 6 = .ok (.if_icmp .eq 7, 3) := by decide +kernel
theorem dX6_tellsFigure_9 : decode cX6_tellsFigure 9 = .ok (.iconst 1, 1) := by decide +kernel
theorem dX6_tellsFigure_10 : decode cX6_tellsFigure 10 = .ok (.goto 4, 3) := by decide +kernel
theorem dX6_tellsFigure_13 : decode cX6_tellsFigure 13 = .ok (.iconst 0, 1) := by decide +kernel
theorem dX6_tellsFigure_14 : decode cX6_tellsFigure 14 = .ok (.ireturn, 1) := by decide +kernel
theorem dX6_takesKind_0 : decode cX6_takesKind 0 = .ok (.iload_n 0, 1) := by decide +kernel
theorem dX6_takesKind_1 : decode cX6_takesKind 1 = .ok (.ifCond .ne 8, 3) := by decide +kernel
theorem dX6_takesKind_4 : decode cX6_takesKind 4 = .ok (.iload_n 1, 1) := by decide +kernel
theorem dX6_takesKind_5 : decode cX6_takesKind 5 = .ok (.invokestatic 147, 3) := by decide +kernel
theorem dX6_takesKind_8 : decode cX6_takesKind 8 = .ok (.ireturn, 1) := by decide +kernel
theorem dX6_takesKind_9 : decode cX6_takesKind 9 = .ok (.iload_n 0, 1) := by decide +kernel
theorem dX6_takesKind_10 : decode cX6_takesKind 10 = .ok (.iconst 1, 1) := by decide +kernel
theorem dX6_takesKind_11 : decode cX6_takesKind 11 = .ok (.if_icmp .ne 10, 3) := by decide +kernel
theorem dX6_takesKind_14 : decode cX6_takesKind 14 = .ok (.iload_n 1, 1) := by decide +kernel
theorem dX6_takesKind_15 : decode cX6_takesKind 15 = .ok (.invokestatic 159, 3) := by decide +kernel
theorem dX6_takesKind_18 : decode cX6_takesKind 18 = .ok (.ifCond .eq 7, 3) := by decide +kernel
theorem dX6_takesKind_21 : decode cX6_takesKind 21 = .ok (.iconst 1, 1) := by decide +kernel
theorem dX6_takesKind_22 : decode cX6_takesKind 22 = .ok (.goto 4, 3) := by decide +kernel
theorem dX6_takesKind_25 : decode cX6_takesKind 25 = .ok (.iconst 0, 1) := by decide +kernel
theorem dX6_takesKind_26 : decode cX6_takesKind 26 = .ok (.ireturn, 1) := by decide +kernel
theorem dX6_shineBehind_0 : decode cX6_shineBehind 0 = .ok (.aload_n 0, 1) := by decide +kernel
theorem dX6_shineBehind_1 : decode cX6_shineBehind 1 = .ok (.getfield 68, 3) := by decide +kernel
theorem dX6_shineBehind_4 : decode cX6_shineBehind 4 = .ok (.aload_n 0, 1) := by decide +kernel
theorem dX6_shineBehind_5 : decode cX6_shineBehind 5 = .ok (.getfield 12, 3) := by decide +kernel
theorem dX6_shineBehind_8 : decode cX6_shineBehind 8 = .ok (.getfield 86, 3) := by decide +kernel
theorem dX6_shineBehind_11 : decode cX6_shineBehind 11 = .ok (.invokevirtual 89, 3) := by decide +kernel
theorem dX6_shineBehind_14 : decode cX6_shineBehind 14 = .ok (.aload_n 0, 1) := by decide +kernel
theorem dX6_shineBehind_15 : decode cX6_shineBehind 15 = .ok (.getfield 12, 3) := by decide +kernel
theorem dX6_shineBehind_18 : decode cX6_shineBehind 18 = .ok (.aload_n 0, 1) := by decide +kernel
theorem dX6_shineBehind_19 : decode cX6_shineBehind 19 = .ok (.getfield 68, 3) := by decide +kernel
theorem dX6_shineBehind_22 : decode cX6_shineBehind 22 = .ok (.iconst 0, 1) := by decide +kernel
theorem dX6_shineBehind_23 : decode cX6_shineBehind 23 = .ok (.iload_n 1, 1) := by decide +kernel
theorem dX6_shineBehind_24 : decode cX6_shineBehind 24 = .ok (.invokevirtual 242, 3) := by decide +kernel
theorem dX6_shineBehind_27 : decode cX6_shineBehind 27 = .ok (.return_, 1) := by decide +kernel
theorem dX6_shineOn_0 : decode cX6_shineOn 0 = .ok (.aload_n 0, 1) := by decide +kernel
theorem dX6_shineOn_1 : decode cX6_shineOn 1 = .ok (.getfield 68, 3) := by decide +kernel
theorem dX6_shineOn_4 : decode cX6_shineOn 4 = .ok (.aload_n 0, 1) := by decide +kernel
theorem dX6_shineOn_5 : decode cX6_shineOn 5 = .ok (.getfield 72, 3) := by decide +kernel
theorem dX6_shineOn_8 : decode cX6_shineOn 8 = .ok (.invokevirtual 89, 3) := by decide +kernel
theorem dX6_shineOn_11 : decode cX6_shineOn 11 = .ok (.aload_n 0, 1) := by decide +kernel
theorem dX6_shineOn_12 : decode cX6_shineOn 12 = .ok (.getfield 68, 3) := by decide +kernel
theorem dX6_shineOn_15 : decode cX6_shineOn 15 = .ok (.iload_n 2, 1) := by decide +kernel
theorem dX6_shineOn_16 : decode cX6_shineOn 16 = .ok (.invokevirtual 252, 3) := by decide +kernel
theorem dX6_shineOn_19 : decode cX6_shineOn 19 = .ok (.aload_n 0, 1) := by decide +kernel
theorem dX6_shineOn_20 : decode cX6_shineOn 20 = .ok (.getfield 12, 3) := by decide +kernel
theorem dX6_shineOn_23 : decode cX6_shineOn 23 = .ok (.aload_n 0, 1) := by decide +kernel
theorem dX6_shineOn_24 : decode cX6_shineOn 24 = .ok (.getfield 68, 3) := by decide +kernel
theorem dX6_shineOn_27 : decode cX6_shineOn 27 = .ok (.iload_n 1, 1) := by decide +kernel
theorem dX6_shineOn_28 : decode cX6_shineOn 28 = .ok (.iconst 1, 1) := by decide +kernel
theorem dX6_shineOn_29 : decode cX6_shineOn 29 = .ok (.iadd, 1) := by decide +kernel
theorem dX6_shineOn_30 : decode cX6_shineOn 30 = .ok (.aload_n 0, 1) := by decide +kernel
theorem dX6_shineOn_31 : decode cX6_shineOn 31 = .ok (.getfield 12, 3) := by decide +kernel
theorem dX6_shineOn_34 : decode cX6_shineOn 34 = .ok (.getfield 140, 3) := by decide +kernel
theorem dX6_shineOn_37 : decode cX6_shineOn 37 = .ok (.invokevirtual 242, 3) := by decide +kernel
theorem dX6_shineOn_40 : decode cX6_shineOn 40 = .ok (.return_, 1) := by decide +kernel
theorem dX6_isCrossed_0 : decode cX6_isCrossed 0 = .ok (.aload_n 0, 1) := by decide +kernel
theorem dX6_isCrossed_1 : decode cX6_isCrossed 1 = .ok (.getfield 68, 3) := by decide +kernel
theorem dX6_isCrossed_4 : decode cX6_isCrossed 4 = .ok (.iconst 0, 1) := by decide +kernel
theorem dX6_isCrossed_5 : decode cX6_isCrossed 5 = .ok (.invokevirtual 239, 3) := by decide +kernel
theorem dX6_isCrossed_8 : decode cX6_isCrossed 8 = .ok (.aload_n 0, 1) := by decide +kernel
theorem dX6_isCrossed_9 : decode cX6_isCrossed 9 = .ok (.getfield 68, 3) := by decide +kernel
theorem dX6_isCrossed_12 : decode cX6_isCrossed 12 = .ok (.iload_n 1, 1) := by decide +kernel
theorem dX6_isCrossed_13 : decode cX6_isCrossed 13 = .ok (.invokevirtual 252, 3) := by decide +kernel
theorem dX6_isCrossed_16 : decode cX6_isCrossed 16 = .ok (.aload_n 0, 1) := by decide +kernel
theorem dX6_isCrossed_17 : decode cX6_isCrossed 17 = .ok (.getfield 68, 3) := by decide +kernel
theorem dX6_isCrossed_20 : decode cX6_isCrossed 20 = .ok (.iload_n 2, 1) := by decide +kernel
theorem dX6_isCrossed_21 : decode cX6_isCrossed 21 = .ok (.invokevirtual 252, 3) := by decide +kernel
theorem dX6_isCrossed_24 : decode cX6_isCrossed 24 = .ok (.aload_n 0, 1) := by decide +kernel
theorem dX6_isCrossed_25 : decode cX6_isCrossed 25 = .ok (.getfield 68, 3) := by decide +kernel
theorem dX6_isCrossed_28 : decode cX6_isCrossed 28 = .ok (.invokevirtual 189, 3) := by decide +kernel
theorem dX6_isCrossed_31 : decode cX6_isCrossed 31 = .ok (.ireturn, 1) := by decide +kernel
theorem dX6_leftInBeam_0 : decode cX6_leftInBeam 0 = .ok (.aload_n 0, 1) := by decide +kernel
theorem dX6_leftInBeam_1 : decode cX6_leftInBeam 1 = .ok (.getfield 12, 3) := by decide +kernel
theorem dX6_leftInBeam_4 : decode cX6_leftInBeam 4 = .ok (.getfield 86, 3) := by decide +kernel
theorem dX6_leftInBeam_7 : decode cX6_leftInBeam 7 = .ok (.getfield 199, 3) := by decide +kernel
theorem dX6_leftInBeam_10 : decode cX6_leftInBeam 10 = .ok (.lconst 0, 1) := by decide +kernel
theorem dX6_leftInBeam_11 : decode cX6_leftInBeam 11 = .ok (.lcmp, 1) := by decide +kernel
theorem dX6_leftInBeam_12 : decode cX6_leftInBeam 12 = .ok (.ifCond .ne 7, 3) := by decide +kernel
theorem dX6_leftInBeam_15 : decode cX6_leftInBeam 15 = .ok (.ldc2_w 174, 3) := by decide +kernel
theorem dX6_leftInBeam_18 : decode cX6_leftInBeam 18 = .ok (.lreturn, 1) := by decide +kernel
theorem dX6_leftInBeam_19 : decode cX6_leftInBeam 19 = .ok (.aload_n 0, 1) := by decide +kernel
theorem dX6_leftInBeam_20 : decode cX6_leftInBeam 20 = .ok (.getfield 68, 3) := by decide +kernel
theorem dX6_leftInBeam_23 : decode cX6_leftInBeam 23 = .ok (.getfield 199, 3) := by decide +kernel
theorem dX6_leftInBeam_26 : decode cX6_leftInBeam 26 = .ok (.aload_n 0, 1) := by decide +kernel
theorem dX6_leftInBeam_27 : decode cX6_leftInBeam 27 = .ok (.getfield 12, 3) := by decide +kernel
theorem dX6_leftInBeam_30 : decode cX6_leftInBeam 30 = .ok (.getfield 86, 3) := by decide +kernel
theorem dX6_leftInBeam_33 : decode cX6_leftInBeam 33 = .ok (.getfield 199, 3) := by decide +kernel
theorem dX6_leftInBeam_36 : decode cX6_leftInBeam 36 = .ok (.aload_n 0, 1) := by decide +kernel
theorem dX6_leftInBeam_37 : decode cX6_leftInBeam 37 = .ok (.getfield 68, 3) := by decide +kernel
theorem dX6_leftInBeam_40 : decode cX6_leftInBeam 40 = .ok (.getfield 246, 3) := by decide +kernel
theorem dX6_leftInBeam_43 : decode cX6_leftInBeam 43 = .ok (.lshl, 1) := by decide +kernel
theorem dX6_leftInBeam_44 : decode cX6_leftInBeam 44 = .ok (.iload_n 1, 1) := by decide +kernel
theorem dX6_leftInBeam_45 : decode cX6_leftInBeam 45 = .ok (.invokestatic 203, 3) := by decide +kernel
theorem dX6_leftInBeam_48 : decode cX6_leftInBeam 48 = .ok (.lreturn, 1) := by decide +kernel
theorem dX6_squaresAreOver_0 : decode cX6_squaresAreOver 0 = .ok (.aload_n 0, 1) := by decide +kernel
theorem dX6_squaresAreOver_1 : decode cX6_squaresAreOver 1 = .ok (.getfield 68, 3) := by decide +kernel
theorem dX6_squaresAreOver_4 : decode cX6_squaresAreOver 4 = .ok (.invokevirtual 403, 3) := by decide +kernel
theorem dX6_squaresAreOver_7 : decode cX6_squaresAreOver 7 = .ok (.aload_n 0, 1) := by decide +kernel
theorem dX6_squaresAreOver_8 : decode cX6_squaresAreOver 8 = .ok (.getfield 68, 3) := by decide +kernel
theorem dX6_squaresAreOver_11 : decode cX6_squaresAreOver 11 = .ok (.invokevirtual 406, 3) := by decide +kernel
theorem dX6_squaresAreOver_14 : decode cX6_squaresAreOver 14 = .ok (.istore_n 1, 1) := by decide +kernel
theorem dX6_squaresAreOver_15 : decode cX6_squaresAreOver 15 = .ok (.iload_n 1, 1) := by decide +kernel
theorem dX6_squaresAreOver_16 : decode cX6_squaresAreOver 16 = .ok (.ifCond .ge 5, 3) := by decide +kernel
theorem dX6_squaresAreOver_19 : decode cX6_squaresAreOver 19 = .ok (.iconst 0, 1) := by decide +kernel
theorem dX6_squaresAreOver_20 : decode cX6_squaresAreOver 20 = .ok (.ireturn, 1) := by decide +kernel
theorem dX6_squaresAreOver_21 : decode cX6_squaresAreOver 21 = .ok (.aload_n 0, 1) := by decide +kernel
theorem dX6_squaresAreOver_22 : decode cX6_squaresAreOver 22 = .ok (.getfield 40, 3) := by decide +kernel
theorem dX6_squaresAreOver_25 : decode cX6_squaresAreOver 25 = .ok (.invokevirtual 352, 3) := by decide +kernel
theorem dX6_squaresAreOver_28 : decode cX6_squaresAreOver 28 = .ok (.aload_n 0, 1) := by decide +kernel
theorem dX6_squaresAreOver_29 : decode cX6_squaresAreOver 29 = .ok (.getfield 40, 3) := by decide +kernel
theorem dX6_squaresAreOver_32 : decode cX6_squaresAreOver 32 = .ok (.iconst 4, 1) := by decide +kernel
theorem dX6_squaresAreOver_33 : decode cX6_squaresAreOver 33 = .ok (.iload_n 1, 1) := by decide +kernel
theorem dX6_squaresAreOver_34 : decode cX6_squaresAreOver 34 = .ok (.invokevirtual 359, 3) := by decide +kernel
theorem dX6_squaresAreOver_37 : decode cX6_squaresAreOver 37 = .ok (.iconst 1, 1) := by decide +kernel
theorem dX6_squaresAreOver_38 : decode cX6_squaresAreOver 38 = .ok (.ireturn, 1) := by decide +kernel
theorem dX6_fraction_0 : decode cX6_fraction 0 = .ok (.lload_n 0, 1) := by decide +kernel
theorem dX6_fraction_1 : decode cX6_fraction 1 = .ok (.lload_n 2, 1) := by decide +kernel
theorem dX6_fraction_2 : decode cX6_fraction 2 = .ok (.invokestatic 409, 3) := by decide +kernel
theorem dX6_fraction_5 : decode cX6_fraction 5 = .ok (.lstore 5, 2) := by decide +kernel
theorem dX6_fraction_7 : decode cX6_fraction 7 = .ok (.lload 5, 2) := by decide +kernel
theorem dX6_fraction_9 : decode cX6_fraction 9 = .ok (.lconst 1, 1) := by decide +kernel
theorem dX6_fraction_10 : decode cX6_fraction 10 = .ok (.lcmp, 1) := by decide +kernel
theorem dX6_fraction_11 : decode cX6_fraction 11 = .ok (.ifCond .ge 7, 3) := by decide +kernel
theorem dX6_fraction_14 : decode cX6_fraction 14 = .ok (.ldc2_w 174, 3) := by decide +kernel
theorem dX6_fraction_17 : decode cX6_fraction 17 = .ok (.lreturn, 1) := by decide +kernel
theorem dX6_fraction_18 : decode cX6_fraction 18 = .ok (.iload 4, 2) := by decide +kernel
theorem dX6_fraction_20 : decode cX6_fraction 20 = .ok (.ifCond .ne 10, 3) := by decide +kernel
theorem dX6_fraction_23 : decode cX6_fraction 23 = .ok (.lload_n 0, 1) := by decide +kernel
theorem dX6_fraction_24 : decode cX6_fraction 24 = .ok (.lload 5, 2) := by decide +kernel
theorem dX6_fraction_26 : decode cX6_fraction 26 = .ok (.ldiv, 1) := by decide +kernel
theorem dX6_fraction_27 : decode cX6_fraction 27 = .ok (.goto 7, 3) := by decide +kernel
theorem dX6_fraction_30 : decode cX6_fraction 30 = .ok (.lload_n 2, 1) := by decide +kernel
theorem dX6_fraction_31 : decode cX6_fraction 31 = .ok (.lload 5, 2) := by decide +kernel
theorem dX6_fraction_33 : decode cX6_fraction 33 = .ok (.ldiv, 1) := by decide +kernel
theorem dX6_fraction_34 : decode cX6_fraction 34 = .ok (.lreturn, 1) := by decide +kernel
theorem dX6_commonDivisor_0 : decode cX6_commonDivisor 0 = .ok (.lload_n 0, 1) := by decide +kernel
theorem dX6_commonDivisor_1 : decode cX6_commonDivisor 1 = .ok (.invokestatic 413, 3) := by decide +kernel
theorem dX6_commonDivisor_4 : decode cX6_commonDivisor 4 = .ok (.lstore 4, 2) := by decide +kernel
theorem dX6_commonDivisor_6 : decode cX6_commonDivisor 6 = .ok (.lload_n 2, 1) := by decide +kernel
theorem dX6_commonDivisor_7 : decode cX6_commonDivisor 7 = .ok (.invokestatic 413, 3) := by decide +kernel
theorem dX6_commonDivisor_10 : decode cX6_commonDivisor 10 = .ok (.lstore 6, 2) := by decide +kernel
theorem dX6_commonDivisor_12 : decode cX6_commonDivisor 12 = .ok (.iconst 0, 1) := by decide +kernel
theorem dX6_commonDivisor_13 : decode cX6_commonDivisor 13 = .ok (.istore 8, 2) := by decide +kernel
theorem dX6_commonDivisor_15 : decode cX6_commonDivisor 15 = .ok (.iload 8, 2) := by decide +kernel
theorem dX6_commonDivisor_17 : decode cX6_commonDivisor 17 = .ok (.sipush 200, 3) := by decide +kernel
theorem dX6_commonDivisor_20 : decode cX6_commonDivisor 20 = .ok (.if_icmp .ge 31, 3) := by decide +kernel
theorem dX6_commonDivisor_23 : decode cX6_commonDivisor 23 = .ok (.lload 6, 2) := by decide +kernel
theorem dX6_commonDivisor_25 : decode cX6_commonDivisor 25 = .ok (.lconst 0, 1) := by decide +kernel
theorem dX6_commonDivisor_26 : decode cX6_commonDivisor 26 = .ok (.lcmp, 1) := by decide +kernel
theorem dX6_commonDivisor_27 : decode cX6_commonDivisor 27 = .ok (.ifCond .eq 24, 3) := by decide +kernel
theorem dX6_commonDivisor_30 : decode cX6_commonDivisor 30 = .ok (.lload 4, 2) := by decide +kernel
theorem dX6_commonDivisor_32 : decode cX6_commonDivisor 32 = .ok (.lload 6, 2) := by decide +kernel
theorem dX6_commonDivisor_34 : decode cX6_commonDivisor 34 = .ok (.lrem, 1) := by decide +kernel
theorem dX6_commonDivisor_35 : decode cX6_commonDivisor 35 = .ok (.lstore 9, 2) := by decide +kernel
theorem dX6_commonDivisor_37 : decode cX6_commonDivisor 37 = .ok (.lload 6, 2) := by decide +kernel
theorem dX6_commonDivisor_39 : decode cX6_commonDivisor 39 = .ok (.lstore 4, 2) := by decide +kernel
theorem dX6_commonDivisor_41 : decode cX6_commonDivisor 41 = .ok (.lload 9, 2) := by decide +kernel
theorem dX6_commonDivisor_43 : decode cX6_commonDivisor 43 = .ok (.lstore 6, 2) := by decide +kernel
theorem dX6_commonDivisor_45 : decode cX6_commonDivisor 45 = .ok (.iinc 8 1, 3) := by decide +kernel
theorem dX6_commonDivisor_48 : decode cX6_commonDivisor 48 = .ok (.goto (-33), 3) := by decide +kernel
theorem dX6_commonDivisor_51 : decode cX6_commonDivisor 51 = .ok (.lload 4, 2) := by decide +kernel
theorem dX6_commonDivisor_53 : decode cX6_commonDivisor 53 = .ok (.lreturn, 1) := by decide +kernel
theorem dX6_isMissing_0 : decode cX6_isMissing 0 = .ok (.aload_n 0, 1) := by decide +kernel
theorem dX6_isMissing_1 : decode cX6_isMissing 1 = .ok (.getfield 26, 3) := by decide +kernel
theorem dX6_isMissing_4 : decode cX6_isMissing 4 = .ok (.iload_n 1, 1) := by decide +kernel
theorem dX6_isMissing_5 : decode cX6_isMissing 5 = .ok (.iaload, 1) := by decide +kernel
theorem dX6_isMissing_6 : decode cX6_isMissing 6 = .ok (.bipush (-11), 2) := by decide +kernel
theorem dX6_isMissing_8 : decode cX6_isMissing 8 = .ok (.if_icmp .ne 7, 3) := by decide +kernel
theorem dX6_isMissing_11 : decode cX6_isMissing 11 = .ok (.iconst 1, 1) := by decide +kernel
theorem dX6_isMissing_12 : decode cX6_isMissing 12 = .ok (.goto 4, 3) := by decide +kernel
theorem dX6_isMissing_15 : decode cX6_isMissing 15 = .ok (.iconst 0, 1) := by decide +kernel
theorem dX6_isMissing_16 : decode cX6_isMissing 16 = .ok (.ireturn, 1) := by decide +kernel
theorem dX6_hasListPlace_0 : decode cX6_hasListPlace 0 = .ok (.iload_n 2, 1) := by decide +kernel
theorem dX6_hasListPlace_1 : decode cX6_hasListPlace 1 = .ok (.ifCond .lt 17, 3) := by decide +kernel
theorem dX6_hasListPlace_4 : decode cX6_hasListPlace 4 = .ok (.iload_n 2, 1) := by decide +kernel
theorem dX6_hasListPlace_5 : decode cX6_hasListPlace 5 = .ok (.aload_n 0, 1) := by decide +kernel
theorem dX6_hasListPlace_6 : decode cX6_hasListPlace 6 = .ok (.getfield 26, 3) := by decide +kernel
theorem dX6_hasListPlace_9 : decode cX6_hasListPlace 9 = .ok (.iload_n 1, 1) := by decide +kernel
theorem dX6_hasListPlace_10 : decode cX6_hasListPlace 10 = .ok (.iaload, 1) := by decide +kernel
theorem dX6_hasListPlace_11 : decode cX6_hasListPlace 11 = .ok (.if_icmp .ge 7, 3) := by decide +kernel
theorem dX6_hasListPlace_14 : decode cX6_hasListPlace 14 = .ok (.iconst 1, 1) := by decide +kernel
theorem dX6_hasListPlace_15 : decode cX6_hasListPlace 15 = .ok (.goto 4, 3) := by decide +kernel
theorem dX6_hasListPlace_18 : decode cX6_hasListPlace 18 = .ok (.iconst 0, 1) := by decide +kernel
theorem dX6_hasListPlace_19 : decode cX6_hasListPlace 19 = .ok (.ireturn, 1) := by decide +kernel
theorem dX6_makeList_0 : decode cX6_makeList 0 = .ok (.aload_n 0, 1) := by decide +kernel
theorem dX6_makeList_1 : decode cX6_makeList 1 = .ok (.getfield 26, 3) := by decide +kernel
theorem dX6_makeList_4 : decode cX6_makeList 4 = .ok (.iload_n 1, 1) := by decide +kernel
theorem dX6_makeList_5 : decode cX6_makeList 5 = .ok (.iload_n 2, 1) := by decide +kernel
theorem dX6_makeList_6 : decode cX6_makeList 6 = .ok (.iastore, 1) := by decide +kernel
theorem dX6_makeList_7 : decode cX6_makeList 7 = .ok (.iconst 0, 1) := by decide +kernel
theorem dX6_makeList_8 : decode cX6_makeList 8 = .ok (.istore_n 3, 1) := by decide +kernel
theorem dX6_makeList_9 : decode cX6_makeList 9 = .ok (.iload_n 3, 1) := by decide +kernel
theorem dX6_makeList_10 : decode cX6_makeList 10 = .ok (.bipush 12, 2) := by decide +kernel
theorem dX6_makeList_12 : decode cX6_makeList 12 = .ok (.if_icmp .ge 18, 3) := by decide +kernel
theorem dX6_makeList_15 : decode cX6_makeList 15 = .ok (.aload_n 0, 1) := by decide +kernel
theorem dX6_makeList_16 : decode cX6_makeList 16 = .ok (.getfield 23, 3) := by decide +kernel
theorem dX6_makeList_19 : decode cX6_makeList 19 = .ok (.iload_n 1, 1) := by decide +kernel
theorem dX6_makeList_20 : decode cX6_makeList 20 = .ok (.aaload, 1) := by decide +kernel
theorem dX6_makeList_21 : decode cX6_makeList 21 = .ok (.iload_n 3, 1) := by decide +kernel
theorem dX6_makeList_22 : decode cX6_makeList 22 = .ok (.lconst 0, 1) := by decide +kernel
theorem dX6_makeList_23 : decode cX6_makeList 23 = .ok (.lastore, 1) := by decide +kernel
theorem dX6_makeList_24 : decode cX6_makeList 24 = .ok (.iinc 3 1, 3) := by decide +kernel
theorem dX6_makeList_27 : decode cX6_makeList 27 = .ok (.goto (-18), 3) := by decide +kernel
theorem dX6_makeList_30 : decode cX6_makeList 30 = .ok (.return_, 1) := by decide +kernel
theorem dX6_tellLight_0 : decode cX6_tellLight 0 = .ok (.aload_n 0, 1) := by decide +kernel
theorem dX6_tellLight_1 : decode cX6_tellLight 1 = .ok (.getfield 26, 3) := by decide +kernel
theorem dX6_tellLight_4 : decode cX6_tellLight 4 = .ok (.iload_n 1, 1) := by decide +kernel
theorem dX6_tellLight_5 : decode cX6_tellLight 5 = .ok (.iaload, 1) := by decide +kernel
theorem dX6_tellLight_6 : decode cX6_tellLight 6 = .ok (.iconst 5, 1) := by decide +kernel
theorem dX6_tellLight_7 : decode cX6_tellLight 7 = .ok (.if_icmp .ge 5, 3) := by decide +kernel
theorem dX6_tellLight_10 : decode cX6_tellLight 10 = .ok (.iconst 0, 1) := by decide +kernel
theorem dX6_tellLight_11 : decode cX6_tellLight 11 = .ok (.ireturn, 1) := by decide +kernel
theorem dX6_tellLight_12 : decode cX6_tellLight 12 = .ok (.aload_n 0, 1) := by decide +kernel
theorem dX6_tellLight_13 : decode cX6_tellLight 13 = .ok (.getfield 23, 3) := by decide +kernel
theorem dX6_tellLight_16 : decode cX6_tellLight 16 = .ok (.iload_n 1, 1) := by decide +kernel
theorem dX6_tellLight_17 : decode cX6_tellLight 17 = .ok (.aaload, 1) := by decide +kernel
theorem dX6_tellLight_18 : decode cX6_tellLight 18 = .ok (.astore_n 2, 1) := by decide +kernel
theorem dX6_tellLight_19 : decode cX6_tellLight 19 = .ok (.aload_n 2, 1) := by decide +kernel
theorem dX6_tellLight_20 : decode cX6_tellLight 20 = .ok (.iconst 0, 1) := by decide +kernel
theorem dX6_tellLight_21 : decode cX6_tellLight 21 = .ok (.laload, 1) := by decide +kernel
theorem dX6_tellLight_22 : decode cX6_tellLight 22 = .ok (.lconst 0, 1) := by decide +kernel
theorem dX6_tellLight_23 : decode cX6_tellLight 23 = .ok (.ldc2_w 417, 3) := by decide +kernel
theorem dX6_tellLight_26 : decode cX6_tellLight 26 = .ok (.invokestatic 419, 3) := by decide +kernel
theorem dX6_tellLight_29 : decode cX6_tellLight 29 = .ok (.ifCond .eq 16, 3) := by decide +kernel
theorem dX6_tellLight_32 : decode cX6_tellLight 32 = .ok (.aload_n 2, 1) := by decide +kernel
theorem dX6_tellLight_33 : decode cX6_tellLight 33 = .ok (.iconst 4, 1) := by decide +kernel
theorem dX6_tellLight_34 : decode cX6_tellLight 34 = .ok (.laload, 1) := by decide +kernel
theorem dX6_tellLight_35 : decode cX6_tellLight 35 = .ok (.lconst 0, 1) := by decide +kernel
theorem dX6_tellLight_36 : decode cX6_tellLight 36 = .ok (.ldc2_w 423, 3) := by decide +kernel
theorem dX6_tellLight_39 : decode cX6_tellLight 39 = .ok (.invokestatic 419, 3) := by decide +kernel
theorem dX6_tellLight_42 : decode cX6_tellLight 42 = .ok (.ifCond .ne 5, 3) := by decide +kernel
theorem dX6_tellLight_45 : decode cX6_tellLight 45 = .ok (.iconst 0, 1) := by decide +kernel
theorem dX6_tellLight_46 : decode cX6_tellLight 46 = .ok (.ireturn, 1) := by decide +kernel
theorem dX6_tellLight_47 : decode cX6_tellLight 47 = .ok (.aload_n 0, 1) := by decide +kernel
theorem dX6_tellLight_48 : decode cX6_tellLight 48 = .ok (.getfield 75, 3) := by decide +kernel
theorem dX6_tellLight_51 : decode cX6_tellLight 51 = .ok (.aload_n 2, 1) := by decide +kernel
theorem dX6_tellLight_52 : decode cX6_tellLight 52 = .ok (.iconst 0, 1) := by decide +kernel
theorem dX6_tellLight_53 : decode cX6_tellLight 53 = .ok (.laload, 1) := by decide +kernel
theorem dX6_tellLight_54 : decode cX6_tellLight 54 = .ok (.aload_n 2, 1) := by decide +kernel
theorem dX6_tellLight_55 : decode cX6_tellLight 55 = .ok (.iconst 1, 1) := by decide +kernel
theorem dX6_tellLight_56 : decode cX6_tellLight 56 = .ok (.laload, 1) := by decide +kernel
theorem dX6_tellLight_57 : decode cX6_tellLight 57 = .ok (.aload_n 2, 1) := by decide +kernel
theorem dX6_tellLight_58 : decode cX6_tellLight 58 = .ok (.iconst 2, 1) := by decide +kernel
theorem dX6_tellLight_59 : decode cX6_tellLight 59 = .ok (.laload, 1) := by decide +kernel
theorem dX6_tellLight_60 : decode cX6_tellLight 60 = .ok (.aload_n 2, 1) := by decide +kernel
theorem dX6_tellLight_61 : decode cX6_tellLight 61 = .ok (.iconst 3, 1) := by decide +kernel
theorem dX6_tellLight_62 : decode cX6_tellLight 62 = .ok (.laload, 1) := by decide +kernel
theorem dX6_tellLight_63 : decode cX6_tellLight 63 = .ok (.aload_n 2, 1) := by decide +kernel
theorem dX6_tellLight_64 : decode cX6_tellLight 64 = .ok (.iconst 4, 1) := by decide +kernel
theorem dX6_tellLight_65 : decode cX6_tellLight 65 = .ok (.laload, 1) := by decide +kernel
theorem dX6_tellLight_66 : decode cX6_tellLight 66 = .ok (.l2i, 1) := by decide +kernel
theorem dX6_tellLight_67 : decode cX6_tellLight 67 = .ok (.invokevirtual 78, 3) := by decide +kernel
theorem dX6_tellLight_70 : decode cX6_tellLight 70 = .ok (.aload_n 0, 1) := by decide +kernel
theorem dX6_tellLight_71 : decode cX6_tellLight 71 = .ok (.getfield 75, 3) := by decide +kernel
theorem dX6_tellLight_74 : decode cX6_tellLight 74 = .ok (.invokevirtual 249, 3) := by decide +kernel
theorem dX6_tellLight_77 : decode cX6_tellLight 77 = .ok (.aload_n 0, 1) := by decide +kernel
theorem dX6_tellLight_78 : decode cX6_tellLight 78 = .ok (.getfield 75, 3) := by decide +kernel
theorem dX6_tellLight_81 : decode cX6_tellLight 81 = .ok (.invokevirtual 82, 3) := by decide +kernel
theorem dX6_tellLight_84 : decode cX6_tellLight 84 = .ok (.ireturn, 1) := by decide +kernel
theorem dX6_refind_0 : decode cX6_refind 0 = .ok (.aload_n 0, 1) := by decide +kernel
theorem dX6_refind_1 : decode cX6_refind 1 = .ok (.getfield 26, 3) := by decide +kernel
theorem dX6_refind_4 : decode cX6_refind 4 = .ok (.iload_n 1, 1) := by decide +kernel
theorem dX6_refind_5 : decode cX6_refind 5 = .ok (.iaload, 1) := by decide +kernel
theorem dX6_refind_6 : decode cX6_refind 6 = .ok (.iconst 5, 1) := by decide +kernel
theorem dX6_refind_7 : decode cX6_refind 7 = .ok (.if_icmp .ge 5, 3) := by decide +kernel
theorem dX6_refind_10 : decode cX6_refind 10 = .ok (.iconst 0, 1) := by decide +kernel
theorem dX6_refind_11 : decode cX6_refind 11 = .ok (.ireturn, 1) := by decide +kernel
theorem dX6_refind_12 : decode cX6_refind 12 = .ok (.aload_n 0, 1) := by decide +kernel
theorem dX6_refind_13 : decode cX6_refind 13 = .ok (.getfield 23, 3) := by decide +kernel
theorem dX6_refind_16 : decode cX6_refind 16 = .ok (.iload_n 1, 1) := by decide +kernel
theorem dX6_refind_17 : decode cX6_refind 17 = .ok (.aaload, 1) := by decide +kernel
theorem dX6_refind_18 : decode cX6_refind 18 = .ok (.astore_n 2, 1) := by decide +kernel
theorem dX6_refind_19 : decode cX6_refind 19 = .ok (.iconst 0, 1) := by decide +kernel
theorem dX6_refind_20 : decode cX6_refind 20 = .ok (.istore_n 3, 1) := by decide +kernel
theorem dX6_refind_21 : decode cX6_refind 21 = .ok (.iload_n 3, 1) := by decide +kernel
theorem dX6_refind_22 : decode cX6_refind 22 = .ok (.iconst 4, 1) := by decide +kernel
theorem dX6_refind_23 : decode cX6_refind 23 = .ok (.if_icmp .ge 24, 3) := by decide +kernel
theorem dX6_refind_26 : decode cX6_refind 26 = .ok (.aload_n 2, 1) := by decide +kernel
theorem dX6_refind_27 : decode cX6_refind 27 = .ok (.iload_n 3, 1) := by decide +kernel
theorem dX6_refind_28 : decode cX6_refind 28 = .ok (.laload, 1) := by decide +kernel
theorem dX6_refind_29 : decode cX6_refind 29 = .ok (.lconst 0, 1) := by decide +kernel
theorem dX6_refind_30 : decode cX6_refind 30 = .ok (.ldc2_w 417, 3) := by decide +kernel
theorem dX6_refind_33 : decode cX6_refind 33 = .ok (.invokestatic 419, 3) := by decide +kernel
theorem dX6_refind_36 : decode cX6_refind 36 = .ok (.ifCond .ne 5, 3) := by decide +kernel
theorem dX6_refind_39 : decode cX6_refind 39 = .ok (.iconst 0, 1) := by decide +kernel
theorem dX6_refind_40 : decode cX6_refind 40 = .ok (.ireturn, 1) := by decide +kernel
theorem dX6_refind_41 : decode cX6_refind 41 = .ok (.iinc 3 1, 3) := by decide +kernel
theorem dX6_refind_44 : decode cX6_refind 44 = .ok (.goto (-23), 3) := by decide +kernel
theorem dX6_refind_47 : decode cX6_refind 47 = .ok (.aload_n 2, 1) := by decide +kernel
theorem dX6_refind_48 : decode cX6_refind 48 = .ok (.iconst 4, 1) := by decide +kernel
theorem dX6_refind_49 : decode cX6_refind 49 = .ok (.laload, 1) := by decide +kernel
theorem dX6_refind_50 : decode cX6_refind 50 = .ok (.lconst 1, 1) := by decide +kernel
theorem dX6_refind_51 : decode cX6_refind 51 = .ok (.ldc2_w 423, 3) := by decide +kernel
theorem dX6_refind_54 : decode cX6_refind 54 = .ok (.invokestatic 419, 3) := by decide +kernel
theorem dX6_refind_57 : decode cX6_refind 57 = .ok (.ifCond .ne 5, 3) := by decide +kernel
theorem dX6_refind_60 : decode cX6_refind 60 = .ok (.iconst 0, 1) := by decide +kernel
theorem dX6_refind_61 : decode cX6_refind 61 = .ok (.ireturn, 1) := by decide +kernel
theorem dX6_refind_62 : decode cX6_refind 62 = .ok (.aload_n 2, 1) := by decide +kernel
theorem dX6_refind_63 : decode cX6_refind 63 = .ok (.iconst 0, 1) := by decide +kernel
theorem dX6_refind_64 : decode cX6_refind 64 = .ok (.laload, 1) := by decide +kernel
theorem dX6_refind_65 : decode cX6_refind 65 = .ok (.aload_n 2, 1) := by decide +kernel
theorem dX6_refind_66 : decode cX6_refind 66 = .ok (.iconst 2, 1) := by decide +kernel
theorem dX6_refind_67 : decode cX6_refind 67 = .ok (.laload, 1) := by decide +kernel
theorem dX6_refind_68 : decode cX6_refind 68 = .ok (.ladd, 1) := by decide +kernel
theorem dX6_refind_69 : decode cX6_refind 69 = .ok (.lstore_n 3, 1) := by decide +kernel
theorem dX6_refind_70 : decode cX6_refind 70 = .ok (.aload_n 0, 1) := by decide +kernel
theorem dX6_refind_71 : decode cX6_refind 71 = .ok (.getfield 75, 3) := by decide +kernel
theorem dX6_refind_74 : decode cX6_refind 74 = .ok (.lload_n 3, 1) := by decide +kernel
theorem dX6_refind_75 : decode cX6_refind 75 = .ok (.aload_n 2, 1) := by decide +kernel
theorem dX6_refind_76 : decode cX6_refind 76 = .ok (.iconst 0, 1) := by decide +kernel
theorem dX6_refind_77 : decode cX6_refind 77 = .ok (.laload, 1) := by decide +kernel
theorem dX6_refind_78 : decode cX6_refind 78 = .ok (.aload_n 2, 1) := by decide +kernel
theorem dX6_refind_79 : decode cX6_refind 79 = .ok (.iconst 2, 1) := by decide +kernel
theorem dX6_refind_80 : decode cX6_refind 80 = .ok (.laload, 1) := by decide +kernel
theorem dX6_refind_81 : decode cX6_refind 81 = .ok (.lsub, 1) := by decide +kernel
theorem dX6_refind_82 : decode cX6_refind 82 = .ok (.ldc2_w 425, 3) := by decide +kernel
theorem dX6_refind_85 : decode cX6_refind 85 = .ok (.aload_n 2, 1) := by decide +kernel
theorem dX6_refind_86 : decode cX6_refind 86 = .ok (.iconst 1, 1) := by decide +kernel
theorem dX6_refind_87 : decode cX6_refind 87 = .ok (.laload, 1) := by decide +kernel
theorem dX6_refind_88 : decode cX6_refind 88 = .ok (.lmul, 1) := by decide +kernel
theorem dX6_refind_89 : decode cX6_refind 89 = .ok (.lload_n 3, 1) := by decide +kernel
theorem dX6_refind_90 : decode cX6_refind 90 = .ok (.lsub, 1) := by decide +kernel
theorem dX6_refind_91 : decode cX6_refind 91 = .ok (.ldc2_w 425, 3) := by decide +kernel
theorem dX6_refind_94 : decode cX6_refind 94 = .ok (.aload_n 2, 1) := by decide +kernel
theorem dX6_refind_95 : decode cX6_refind 95 = .ok (.iconst 3, 1) := by decide +kernel
theorem dX6_refind_96 : decode cX6_refind 96 = .ok (.laload, 1) := by decide +kernel
theorem dX6_refind_97 : decode cX6_refind 97 = .ok (.lmul, 1) := by decide +kernel
theorem dX6_refind_98 : decode cX6_refind 98 = .ok (.lload_n 3, 1) := by decide +kernel
theorem dX6_refind_99 : decode cX6_refind 99 = .ok (.lsub, 1) := by decide +kernel
theorem dX6_refind_100 : decode cX6_refind 100 = .ok (.aload_n 2, 1) := by decide +kernel
theorem dX6_refind_101 : decode cX6_refind 101 = .ok (.iconst 4, 1) := by decide +kernel
theorem dX6_refind_102 : decode cX6_refind 102 = .ok (.laload, 1) := by decide +kernel
theorem dX6_refind_103 : decode cX6_refind 103 = .ok (.l2i, 1) := by decide +kernel
theorem dX6_refind_104 : decode cX6_refind 104 = .ok (.invokevirtual 78, 3) := by decide +kernel
theorem dX6_refind_107 : decode cX6_refind 107 = .ok (.aload_n 0, 1) := by decide +kernel
theorem dX6_refind_108 : decode cX6_refind 108 = .ok (.getfield 75, 3) := by decide +kernel
theorem dX6_refind_111 : decode cX6_refind 111 = .ok (.invokevirtual 249, 3) := by decide +kernel
theorem dX6_refind_114 : decode cX6_refind 114 = .ok (.iconst 1, 1) := by decide +kernel
theorem dX6_refind_115 : decode cX6_refind 115 = .ok (.ireturn, 1) := by decide +kernel
theorem dX6_isFrom_0 : decode cX6_isFrom 0 = .ok (.lload_n 0, 1) := by decide +kernel
theorem dX6_isFrom_1 : decode cX6_isFrom 1 = .ok (.lload_n 2, 1) := by decide +kernel
theorem dX6_isFrom_2 : decode cX6_isFrom 2 = .ok (.lcmp, 1) := by decide +kernel
theorem dX6_isFrom_3 : decode cX6_isFrom 3 = .ok (.ifCond .lt 14, 3) := by decide +kernel
theorem dX6_isFrom_6 : decode cX6_isFrom 6 = .ok (.lload_n 0, 1) := by decide +kernel
theorem dX6_isFrom_7 : decode cX6_isFrom 7 = .ok (.lload 4, 2) := by decide +kernel
theorem dX6_isFrom_9 : decode cX6_isFrom 9 = .ok (.lcmp, 1) := by decide +kernel
theorem dX6_isFrom_10 : decode cX6_isFrom 10 = .ok (.ifCond .gt 7, 3) := by decide +kernel
theorem dX6_isFrom_13 : decode cX6_isFrom 13 = .ok (.iconst 1, 1) := by decide +kernel
theorem dX6_isFrom_14 : decode cX6_isFrom 14 = .ok (.goto 4, 3) := by decide +kernel
theorem dX6_isFrom_17 : decode cX6_isFrom 17 = .ok (.iconst 0, 1) := by decide +kernel
theorem dX6_isFrom_18 : decode cX6_isFrom 18 = .ok (.ireturn, 1) := by decide +kernel
theorem dX6_measure_0 : decode cX6_measure 0 = .ok (.aload_n 0, 1) := by decide +kernel
theorem dX6_measure_1 : decode cX6_measure 1 = .ok (.iload_n 1, 1) := by decide +kernel
theorem dX6_measure_2 : decode cX6_measure 2 = .ok (.invokevirtual 176, 3) := by decide +kernel
theorem dX6_measure_5 : decode cX6_measure 5 = .ok (.aload_n 0, 1) := by decide +kernel
theorem dX6_measure_6 : decode cX6_measure 6 = .ok (.getfield 68, 3) := by decide +kernel
theorem dX6_measure_9 : decode cX6_measure 9 = .ok (.getfield 199, 3) := by decide +kernel
theorem dX6_measure_12 : decode cX6_measure 12 = .ok (.l2d, 1) := by decide +kernel
theorem dX6_measure_13 : decode cX6_measure 13 = .ok (.lconst 1, 1) := by decide +kernel
theorem dX6_measure_14 : decode cX6_measure 14 = .ok (.aload_n 0, 1) := by decide +kernel
theorem dX6_measure_15 : decode cX6_measure 15 = .ok (.getfield 68, 3) := by decide +kernel
theorem dX6_measure_18 : decode cX6_measure 18 = .ok (.getfield 246, 3) := by decide +kernel
theorem dX6_measure_21 : decode cX6_measure 21 = .ok (.lshl, 1) := by decide +kernel
theorem dX6_measure_22 : decode cX6_measure 22 = .ok (.l2d, 1) := by decide +kernel
theorem dX6_measure_23 : decode cX6_measure 23 = .ok (.ddiv, 1) := by decide +kernel
theorem dX6_measure_24 : decode cX6_measure 24 = .ok (.dreturn, 1) := by decide +kernel
theorem dX6_doubleBits_0 : decode cX6_doubleBits 0 = .ok (.dload_n 0, 1) := by decide +kernel
theorem dX6_doubleBits_1 : decode cX6_doubleBits 1 = .ok (.dconst 0, 1) := by decide +kernel
theorem dX6_doubleBits_2 : decode cX6_doubleBits 2 = .ok (.dcmp .g, 1) := by decide +kernel
theorem dX6_doubleBits_3 : decode cX6_doubleBits 3 = .ok (.ifCond .gt 5, 3) := by decide +kernel
theorem dX6_doubleBits_6 : decode cX6_doubleBits 6 = .ok (.lconst 0, 1) := by decide +kernel
theorem dX6_doubleBits_7 : decode cX6_doubleBits 7 = .ok (.lreturn, 1) := by decide +kernel
theorem dX6_doubleBits_8 : decode cX6_doubleBits 8 = .ok (.dload_n 0, 1) := by decide +kernel
theorem dX6_doubleBits_9 : decode cX6_doubleBits 9 = .ok (.dstore_n 2, 1) := by decide +kernel
theorem dX6_doubleBits_10 : decode cX6_doubleBits 10 = .ok (.iconst 0, 1) := by decide +kernel
theorem dX6_doubleBits_11 : decode cX6_doubleBits 11 = .ok (.istore 4, 2) := by decide +kernel
theorem dX6_doubleBits_13 : decode cX6_doubleBits 13 = .ok (.dload_n 2, 1) := by decide +kernel
theorem dX6_doubleBits_14 : decode cX6_doubleBits 14 = .ok (.ldc2_w 427, 3) := by decide +kernel
theorem dX6_doubleBits_17 : decode cX6_doubleBits 17 = .ok (.dcmp .l, 1) := by decide +kernel
theorem dX6_doubleBits_18 : decode cX6_doubleBits 18 = .ok (.ifCond .lt 23, 3) := by decide +kernel
theorem dX6_doubleBits_21 : decode cX6_doubleBits 21 = .ok (.iload 4, 2) := by decide +kernel
theorem dX6_doubleBits_23 : decode cX6_doubleBits 23 = .ok (.sipush 1023, 3) := by decide +kernel
theorem dX6_doubleBits_26 : decode cX6_doubleBits 26 = .ok (.if_icmp .ge 15, 3) := by decide +kernel
theorem dX6_doubleBits_29 : decode cX6_doubleBits 29 = .ok (.dload_n 2, 1) := by decide +kernel
theorem dX6_doubleBits_30 : decode cX6_doubleBits 30 = .ok (.ldc2_w 427, 3) := by decide +kernel
theorem dX6_doubleBits_33 : decode cX6_doubleBits 33 = .ok (.ddiv, 1) := by decide +kernel
theorem dX6_doubleBits_34 : decode cX6_doubleBits 34 = .ok (.dstore_n 2, 1) := by decide +kernel
theorem dX6_doubleBits_35 : decode cX6_doubleBits 35 = .ok (.iinc 4 1, 3) := by decide +kernel
theorem dX6_doubleBits_38 : decode cX6_doubleBits 38 = .ok (.goto (-25), 3) := by decide +kernel
theorem dX6_doubleBits_41 : decode cX6_doubleBits 41 = .ok (.dload_n 2, 1) := by decide +kernel
theorem dX6_doubleBits_42 : decode cX6_doubleBits 42 = .ok (.dconst 1, 1) := by decide +kernel
theorem dX6_doubleBits_43 : decode cX6_doubleBits 43 = .ok (.dcmp .g, 1) := by decide +kernel
theorem dX6_doubleBits_44 : decode cX6_doubleBits 44 = .ok (.ifCond .ge 23, 3) := by decide +kernel
theorem dX6_doubleBits_47 : decode cX6_doubleBits 47 = .ok (.iload 4, 2) := by decide +kernel
theorem dX6_doubleBits_49 : decode cX6_doubleBits 49 = .ok (.sipush (-1023), 3) := by decide +kernel
theorem dX6_doubleBits_52 : decode cX6_doubleBits 52 = .ok (.if_icmp .le 15, 3) := by decide +kernel
theorem dX6_doubleBits_55 : decode cX6_doubleBits 55 = .ok (.dload_n 2, 1) := by decide +kernel
theorem dX6_doubleBits_56 : decode cX6_doubleBits 56 = .ok (.ldc2_w 427, 3) := by decide +kernel
theorem dX6_doubleBits_59 : decode cX6_doubleBits 59 = .ok (.dmul, 1) := by decide +kernel
theorem dX6_doubleBits_60 : decode cX6_doubleBits 60 = .ok (.dstore_n 2, 1) := by decide +kernel
theorem dX6_doubleBits_61 : decode cX6_doubleBits 61 = .ok (.iinc 4 (-1), 3) := by decide +kernel
theorem dX6_doubleBits_64 : decode cX6_doubleBits 64 = .ok (.goto (-23), 3) := by decide +kernel
theorem dX6_doubleBits_67 : decode cX6_doubleBits 67 = .ok (.dload_n 2, 1) := by decide +kernel
theorem dX6_doubleBits_68 : decode cX6_doubleBits 68 = .ok (.dconst 1, 1) := by decide +kernel
theorem dX6_doubleBits_69 : decode cX6_doubleBits 69 = .ok (.dsub, 1) := by decide +kernel
theorem dX6_doubleBits_70 : decode cX6_doubleBits 70 = .ok (.ldc2_w 429, 3) := by decide +kernel
theorem dX6_doubleBits_73 : decode cX6_doubleBits 73 = .ok (.dmul, 1) := by decide +kernel
theorem dX6_doubleBits_74 : decode cX6_doubleBits 74 = .ok (.d2l, 1) := by decide +kernel
theorem dX6_doubleBits_75 : decode cX6_doubleBits 75 = .ok (.lstore 5, 2) := by decide +kernel
theorem dX6_doubleBits_77 : decode cX6_doubleBits 77 = .ok (.iload 4, 2) := by decide +kernel
theorem dX6_doubleBits_79 : decode cX6_doubleBits 79 = .ok (.sipush 1023, 3) := by decide +kernel
theorem dX6_doubleBits_82 : decode cX6_doubleBits 82 = .ok (.iadd, 1) := by decide +kernel
theorem dX6_doubleBits_83 : decode cX6_doubleBits 83 = .ok (.i2l, 1) := by decide +kernel
theorem dX6_doubleBits_84 : decode cX6_doubleBits 84 = .ok (.bipush 52, 2) := by decide +kernel
theorem dX6_doubleBits_86 : decode cX6_doubleBits 86 = .ok (.lshl, 1) := by decide +kernel
theorem dX6_doubleBits_87 : decode cX6_doubleBits 87 = .ok (.lload 5, 2) := by decide +kernel
theorem dX6_doubleBits_89 : decode cX6_doubleBits 89 = .ok (.ladd, 1) := by decide +kernel
theorem dX6_doubleBits_90 : decode cX6_doubleBits 90 = .ok (.lreturn, 1) := by decide +kernel
theorem dX6_floatBits_0 : decode cX6_floatBits 0 = .ok (.fload_n 0, 1) := by decide +kernel
theorem dX6_floatBits_1 : decode cX6_floatBits 1 = .ok (.f2d, 1) := by decide +kernel
theorem dX6_floatBits_2 : decode cX6_floatBits 2 = .ok (.invokestatic 308, 3) := by decide +kernel
theorem dX6_floatBits_5 : decode cX6_floatBits 5 = .ok (.lstore_n 1, 1) := by decide +kernel
theorem dX6_floatBits_6 : decode cX6_floatBits 6 = .ok (.lload_n 1, 1) := by decide +kernel
theorem dX6_floatBits_7 : decode cX6_floatBits 7 = .ok (.lconst 0, 1) := by decide +kernel
theorem dX6_floatBits_8 : decode cX6_floatBits 8 = .ok (.lcmp, 1) := by decide +kernel
theorem dX6_floatBits_9 : decode cX6_floatBits 9 = .ok (.ifCond .ne 5, 3) := by decide +kernel
theorem dX6_floatBits_12 : decode cX6_floatBits 12 = .ok (.iconst 0, 1) := by decide +kernel
theorem dX6_floatBits_13 : decode cX6_floatBits 13 = .ok (.ireturn, 1) := by decide +kernel
theorem dX6_floatBits_14 : decode cX6_floatBits 14 = .ok (.lload_n 1, 1) := by decide +kernel
theorem dX6_floatBits_15 : decode cX6_floatBits 15 = .ok (.bipush 52, 2) := by decide +kernel
theorem dX6_floatBits_17 : decode cX6_floatBits 17 = .ok (.lshr, 1) := by decide +kernel
theorem dX6_floatBits_18 : decode cX6_floatBits 18 = .ok (.l2i, 1) := by decide +kernel
theorem dX6_floatBits_19 : decode cX6_floatBits 19 = .ok (.sipush 1023, 3) := by decide +kernel
theorem dX6_floatBits_22 : decode cX6_floatBits 22 = .ok (.isub, 1) := by decide +kernel
theorem dX6_floatBits_23 : decode cX6_floatBits 23 = .ok (.istore_n 3, 1) := by decide +kernel
theorem dX6_floatBits_24 : decode cX6_floatBits 24 = .ok (.lload_n 1, 1) := by decide +kernel
theorem dX6_floatBits_25 : decode cX6_floatBits 25 = .ok (.ldc2_w 431, 3) := by decide +kernel
theorem dX6_floatBits_28 : decode cX6_floatBits 28 = .ok (.land, 1) := by decide +kernel
theorem dX6_floatBits_29 : decode cX6_floatBits 29 = .ok (.lstore 4, 2) := by decide +kernel
theorem dX6_floatBits_31 : decode cX6_floatBits 31 = .ok (.bipush 29, 2) := by decide +kernel
theorem dX6_floatBits_33 : decode cX6_floatBits 33 = .ok (.istore 6, 2) := by decide +kernel
theorem dX6_floatBits_35 : decode cX6_floatBits 35 = .ok (.iload_n 3, 1) := by decide +kernel
theorem dX6_floatBits_36 : decode cX6_floatBits 36 = .ok (.bipush (-126), 2) := by decide +kernel
theorem dX6_floatBits_38 : decode cX6_floatBits 38 = .ok (.if_icmp .lt 18, 3) := by decide +kernel
theorem dX6_floatBits_41 : decode cX6_floatBits 41 = .ok (.iload_n 3, 1) := by decide +kernel
theorem dX6_floatBits_42 : decode cX6_floatBits 42 = .ok (.bipush 127, 2) := by decide +kernel
theorem dX6_floatBits_44 : decode cX6_floatBits 44 = .ok (.iadd, 1) := by decide +kernel
theorem dX6_floatBits_45 : decode cX6_floatBits 45 = .ok (.bipush 23, 2) := by decide +kernel
theorem dX6_floatBits_47 : decode cX6_floatBits 47 = .ok (.ishl, 1) := by decide +kernel
theorem dX6_floatBits_48 : decode cX6_floatBits 48 = .ok (.lload 4, 2) := by decide +kernel
theorem dX6_floatBits_50 : decode cX6_floatBits 50 = .ok (.iload 6, 2) := by decide +kernel
theorem dX6_floatBits_52 : decode cX6_floatBits 52 = .ok (.lshr, 1) := by decide +kernel
theorem dX6_floatBits_53 : decode cX6_floatBits 53 = .ok (.l2i, 1) := by decide +kernel
theorem dX6_floatBits_54 : decode cX6_floatBits 54 = .ok (.iadd, 1) := by decide +kernel
theorem dX6_floatBits_55 : decode cX6_floatBits 55 = .ok (.ireturn, 1) := by decide +kernel
theorem dX6_floatBits_56 : decode cX6_floatBits 56 = .ok (.lload 4, 2) := by decide +kernel
theorem dX6_floatBits_58 : decode cX6_floatBits 58 = .ok (.ldc2_w 433, 3) := by decide +kernel
theorem dX6_floatBits_61 : decode cX6_floatBits 61 = .ok (.lor, 1) := by decide +kernel
theorem dX6_floatBits_62 : decode cX6_floatBits 62 = .ok (.iload 6, 2) := by decide +kernel
theorem dX6_floatBits_64 : decode cX6_floatBits 64 = .ok (.bipush (-126), 2) := by decide +kernel
theorem dX6_floatBits_66 : decode cX6_floatBits 66 = .ok (.iadd, 1) := by decide +kernel
theorem dX6_floatBits_67 : decode cX6_floatBits 67 = .ok (.iload_n 3, 1) := by decide +kernel
theorem dX6_floatBits_68 : decode cX6_floatBits 68 = .ok (.isub, 1) := by decide +kernel
theorem dX6_floatBits_69 : decode cX6_floatBits 69 = .ok (.lshr, 1) := by decide +kernel
theorem dX6_floatBits_70 : decode cX6_floatBits 70 = .ok (.l2i, 1) := by decide +kernel
theorem dX6_floatBits_71 : decode cX6_floatBits 71 = .ok (.ireturn, 1) := by decide +kernel
theorem dX6_rackedCode_0 : decode cX6_rackedCode 0 = .ok (.iload_n 1, 1) := by decide +kernel
theorem dX6_rackedCode_1 : decode cX6_rackedCode 1 = .ok (.invokestatic 321, 3) := by decide +kernel
theorem dX6_rackedCode_4 : decode cX6_rackedCode 4 = .ok (.ifCond .ne 5, 3) := by decide +kernel
theorem dX6_rackedCode_7 : decode cX6_rackedCode 7 = .ok (.iconst (-1), 1) := by decide +kernel
theorem dX6_rackedCode_8 : decode cX6_rackedCode 8 = .ok (.ireturn, 1) := by decide +kernel
theorem dX6_rackedCode_9 : decode cX6_rackedCode 9 = .ok (.iload_n 2, 1) := by decide +kernel
theorem dX6_rackedCode_10 : decode cX6_rackedCode 10 = .ok (.invokestatic 324, 3) := by decide +kernel
theorem dX6_rackedCode_13 : decode cX6_rackedCode 13 = .ok (.ifCond .ne 6, 3) := by decide +kernel
theorem dX6_rackedCode_16 : decode cX6_rackedCode 16 = .ok (.bipush (-13), 2) := by decide +kernel
theorem dX6_rackedCode_18 : decode cX6_rackedCode 18 = .ok (.ireturn, 1) := by decide +kernel
theorem dX6_rackedCode_19 : decode cX6_rackedCode 19 = .ok (.aload_n 0, 1) := by decide +kernel
theorem dX6_rackedCode_20 : decode cX6_rackedCode 20 = .ok (.getfield 12, 3) := by decide +kernel
theorem dX6_rackedCode_23 : decode cX6_rackedCode 23 = .ok (.getfield 333, 3) := by decide +kernel
theorem dX6_rackedCode_26 : decode cX6_rackedCode 26 = .ok (.iload_n 1, 1) := by decide +kernel
theorem dX6_rackedCode_27 : decode cX6_rackedCode 27 = .ok (.aaload, 1) := by decide +kernel
theorem dX6_rackedCode_28 : decode cX6_rackedCode 28 = .ok (.iload_n 2, 1) := by decide +kernel
theorem dX6_rackedCode_29 : decode cX6_rackedCode 29 = .ok (.iaload, 1) := by decide +kernel
theorem dX6_rackedCode_30 : decode cX6_rackedCode 30 = .ok (.istore_n 3, 1) := by decide +kernel
theorem dX6_rackedCode_31 : decode cX6_rackedCode 31 = .ok (.iload_n 3, 1) := by decide +kernel
theorem dX6_rackedCode_32 : decode cX6_rackedCode 32 = .ok (.iconst (-1), 1) := by decide +kernel
theorem dX6_rackedCode_33 : decode cX6_rackedCode 33 = .ok (.if_icmp .ne 8, 3) := by decide +kernel
theorem dX6_rackedCode_36 : decode cX6_rackedCode 36 = .ok (.bipush (-5), 2) := by decide +kernel
theorem dX6_rackedCode_38 : decode cX6_rackedCode 38 = .ok (.goto 4, 3) := by decide +kernel
theorem dX6_rackedCode_41 : decode cX6_rackedCode 41 = .ok (.iload_n 3, 1) := by decide +kernel
theorem dX6_rackedCode_42 : decode cX6_rackedCode 42 = .ok (.ireturn, 1) := by decide +kernel
theorem dX6_spell_0 : decode cX6_spell 0 = .ok (.aload_n 0, 1) := by decide +kernel
theorem dX6_spell_1 : decode cX6_spell 1 = .ok (.getfield 61, 3) := by decide +kernel
theorem dX6_spell_4 : decode cX6_spell 4 = .ok (.iconst 0, 1) := by decide +kernel
theorem dX6_spell_5 : decode cX6_spell 5 = .ok (.invokevirtual 435, 3) := by decide +kernel
theorem dX6_spell_8 : decode cX6_spell 8 = .ok (.iconst 0, 1) := by decide +kernel
theorem dX6_spell_9 : decode cX6_spell 9 = .ok (.istore_n 1, 1) := by decide +kernel
theorem dX6_spell_10 : decode cX6_spell 10 = .ok (.iload_n 1, 1) := by decide +kernel
theorem dX6_spell_11 : decode cX6_spell 11 = .ok (.aload_n 0, 1) := by decide +kernel
theorem dX6_spell_12 : decode cX6_spell 12 = .ok (.getfield 12, 3) := by decide +kernel
theorem dX6_spell_15 : decode cX6_spell 15 = .ok (.getfield 140, 3) := by decide +kernel
theorem dX6_spell_18 : decode cX6_spell 18 = .ok (.if_icmp .ge 36, 3) := by decide +kernel
theorem dX6_spell_21 : decode cX6_spell 21 = .ok (.iload_n 1, 1) := by decide +kernel
theorem dX6_spell_22 : decode cX6_spell 22 = .ok (.ifCond .le 13, 3) := by decide +kernel
theorem dX6_spell_25 : decode cX6_spell 25 = .ok (.aload_n 0, 1) := by decide +kernel
theorem dX6_spell_26 : decode cX6_spell 26 = .ok (.getfield 61, 3) := by decide +kernel
theorem dX6_spell_29 : decode cX6_spell 29 = .ok (.bipush 59, 2) := by decide +kernel
theorem dX6_spell_31 : decode cX6_spell 31 = .ok (.invokevirtual 438, 3) := by decide +kernel
theorem dX6_spell_34 : decode cX6_spell 34 = .ok (.pop, 1) := by decide +kernel
theorem dX6_spell_35 : decode cX6_spell 35 = .ok (.aload_n 0, 1) := by decide +kernel
theorem dX6_spell_36 : decode cX6_spell 36 = .ok (.aload_n 0, 1) := by decide +kernel
theorem dX6_spell_37 : decode cX6_spell 37 = .ok (.getfield 12, 3) := by decide +kernel
theorem dX6_spell_40 : decode cX6_spell 40 = .ok (.getfield 118, 3) := by decide +kernel
theorem dX6_spell_43 : decode cX6_spell 43 = .ok (.iload_n 1, 1) := by decide +kernel
theorem dX6_spell_44 : decode cX6_spell 44 = .ok (.iaload, 1) := by decide +kernel
theorem dX6_spell_45 : decode cX6_spell 45 = .ok (.invokevirtual 441, 3) := by decide +kernel
theorem dX6_spell_48 : decode cX6_spell 48 = .ok (.iinc 1 1, 3) := by decide +kernel
theorem dX6_spell_51 : decode cX6_spell 51 = .ok (.goto (-41), 3) := by decide +kernel
theorem dX6_spell_54 : decode cX6_spell 54 = .ok (.return_, 1) := by decide +kernel
theorem dX6_spellFilter_0 : decode cX6_spellFilter 0 = .ok (.iload_n 1, 1) := by decide +kernel
theorem dX6_spellFilter_1 : decode cX6_spellFilter 1 = .ok (.invokestatic 144, 3) := by decide +kernel
theorem dX6_spellFilter_4 : decode cX6_spellFilter 4 = .ok (.istore_n 2, 1) := by decide +kernel
theorem dX6_spellFilter_5 : decode cX6_spellFilter 5 = .ok (.iload_n 2, 1) := by decide +kernel
theorem dX6_spellFilter_6 : decode cX6_spellFilter 6 = .ok (.invokestatic 93, 3) := by decide +kernel
theorem dX6_spellFilter_9 : decode cX6_spellFilter 9 = .ok (.ifCond .ne 4, 3) := by decide +kernel
theorem dX6_spellFilter_12 : decode cX6_spellFilter 12 = .ok (.return_, 1) := by decide +kernel
theorem dX6_spellFilter_13 : decode cX6_spellFilter 13 = .ok (.aload_n 0, 1) := by decide +kernel
theorem dX6_spellFilter_14 : decode cX6_spellFilter 14 = .ok (.getfield 61, 3) := by decide +kernel
theorem dX6_spellFilter_17 : decode cX6_spellFilter 17 = .ok (.ldc_w 444, 3) := by decide +kernel
theorem dX6_spellFilter_20 : decode cX6_spellFilter 20 = .ok (.iload_n 2, 1) := by decide +kernel
theorem dX6_spellFilter_21 : decode cX6_spellFilter 21 = .ok (.invokevirtual 446, 3) := by decide +kernel
theorem dX6_spellFilter_24 : decode cX6_spellFilter 24 = .ok (.invokevirtual 438, 3) := by decide +kernel
theorem dX6_spellFilter_27 : decode cX6_spellFilter 27 = .ok (.pop, 1) := by decide +kernel
theorem dX6_spellFilter_28 : decode cX6_spellFilter 28 = .ok (.iload_n 2, 1) := by decide +kernel
theorem dX6_spellFilter_29 : decode cX6_spellFilter 29 = .ok (.invokestatic 449, 3) := by decide +kernel
theorem dX6_spellFilter_32 : decode cX6_spellFilter 32 = .ok (.ifCond .eq 15, 3) := by decide +kernel
theorem dX6_spellFilter_35 : decode cX6_spellFilter 35 = .ok (.aload_n 0, 1) := by decide +kernel
theorem dX6_spellFilter_36 : decode cX6_spellFilter 36 = .ok (.getfield 61, 3) := by decide +kernel
theorem dX6_spellFilter_39 : decode cX6_spellFilter 39 = .ok (.iload_n 1, 1) := by decide +kernel
theorem dX6_spellFilter_40 : decode cX6_spellFilter 40 = .ok (.invokestatic 121, 3) := by decide +kernel
theorem dX6_spellFilter_43 : decode cX6_spellFilter 43 = .ok (.invokevirtual 452, 3) := by decide +kernel
theorem dX6_spellFilter_46 : decode cX6_spellFilter 46 = .ok (.pop, 1) := by decide +kernel
theorem dX6_spellFilter_47 : decode cX6_spellFilter 47 = .ok (.iload_n 2, 1) := by decide +kernel
theorem dX6_spellFilter_48 : decode cX6_spellFilter 48 = .ok (.invokestatic 449, 3) := by decide +kernel
theorem dX6_spellFilter_51 : decode cX6_spellFilter 51 = .ok (.ifCond .eq 20, 3) := by decide +kernel
theorem dX6_spellFilter_54 : decode cX6_spellFilter 54 = .ok (.iload_n 2, 1) := by decide +kernel
theorem dX6_spellFilter_55 : decode cX6_spellFilter 55 = .ok (.invokestatic 455, 3) := by decide +kernel
theorem dX6_spellFilter_58 : decode cX6_spellFilter 58 = .ok (.ifCond .eq 13, 3) := by decide +kernel
theorem dX6_spellFilter_61 : decode cX6_spellFilter 61 = .ok (.aload_n 0, 1) := by decide +kernel
theorem dX6_spellFilter_62 : decode cX6_spellFilter 62 = .ok (.getfield 61, 3) := by decide +kernel
theorem dX6_spellFilter_65 : decode cX6_spellFilter 65 = .ok (.bipush 44, 2) := by decide +kernel
theorem dX6_spellFilter_67 : decode cX6_spellFilter 67 = .ok (.invokevirtual 438, 3) := by decide +kernel
theorem dX6_spellFilter_70 : decode cX6_spellFilter 70 = .ok (.pop, 1) := by decide +kernel
theorem dX6_spellFilter_71 : decode cX6_spellFilter 71 = .ok (.iload_n 2, 1) := by decide +kernel
theorem dX6_spellFilter_72 : decode cX6_spellFilter 72 = .ok (.invokestatic 455, 3) := by decide +kernel
theorem dX6_spellFilter_75 : decode cX6_spellFilter 75 = .ok (.ifCond .eq 15, 3) := by decide +kernel
theorem dX6_spellFilter_78 : decode cX6_spellFilter 78 = .ok (.aload_n 0, 1) := by decide +kernel
theorem dX6_spellFilter_79 : decode cX6_spellFilter 79 = .ok (.getfield 61, 3) := by decide +kernel
theorem dX6_spellFilter_82 : decode cX6_spellFilter 82 = .ok (.iload_n 1, 1) := by decide +kernel
theorem dX6_spellFilter_83 : decode cX6_spellFilter 83 = .ok (.invokestatic 150, 3) := by decide +kernel
theorem dX6_spellFilter_86 : decode cX6_spellFilter 86 = .ok (.invokevirtual 452, 3) := by decide +kernel
theorem dX6_spellFilter_89 : decode cX6_spellFilter 89 = .ok (.pop, 1) := by decide +kernel
theorem dX6_spellFilter_90 : decode cX6_spellFilter 90 = .ok (.return_, 1) := by decide +kernel
