theorem dX0_init_0 : decode cX0_init 0 = .ok (.aload_n 0, 1) := by decide +kernel
theorem dX0_init_1 : decode cX0_init 1 = .ok (.invokespecial 3, 3) := by decide +kernel
theorem dX0_init_4 : decode cX0_init 4 = .ok (.aload_n 0, 1) := by decide +kernel
theorem dX0_init_5 : decode cX0_init 5 = .ok (.new 9, 3) := by decide +kernel
theorem dX0_init_8 : decode cX0_init 8 = .ok (.dup, 1) := by decide +kernel
theorem dX0_init_9 : decode cX0_init 9 = .ok (.invokespecial 11, 3) := by decide +kernel
theorem dX0_init_12 : decode cX0_init 12 = .ok (.putfield 12, 3) := by decide +kernel
theorem dX0_init_15 : decode cX0_init 15 = .ok (.aload_n 0, 1) := by decide +kernel
theorem dX0_init_16 : decode cX0_init 16 = .ok (.bipush 8, 2) := by decide +kernel
theorem dX0_init_18 : decode cX0_init 18 = .ok (.newarray .int, 2) := by decide +kernel
theorem dX0_init_20 : decode cX0_init 20 = .ok (.putfield 18, 3) := by decide +kernel
theorem dX0_init_23 : decode cX0_init 23 = .ok (.aload_n 0, 1) := by decide +kernel
theorem dX0_init_24 : decode cX0_init 24 = .ok (.bipush 8, 2) := by decide +kernel
theorem dX0_init_26 : decode cX0_init 26 = .ok (.newarray .float, 2) := by decide +kernel
theorem dX0_init_28 : decode cX0_init 28 = .ok (.putfield 22, 3) := by decide +kernel
theorem dX0_init_31 : decode cX0_init 31 = .ok (.aload_n 0, 1) := by decide +kernel
theorem dX0_init_32 : decode cX0_init 32 = .ok (.iconst 3, 1) := by decide +kernel
theorem dX0_init_33 : decode cX0_init 33 = .ok (.iconst 4, 1) := by decide +kernel
theorem dX0_init_34 : decode cX0_init 34 = .ok (.multianewarray 26 2, 4) := by decide +kernel
theorem dX0_init_38 : decode cX0_init 38 = .ok (.putfield 28, 3) := by decide +kernel
theorem dX0_init_41 : decode cX0_init 41 = .ok (.aload_n 0, 1) := by decide +kernel
theorem dX0_init_42 : decode cX0_init 42 = .ok (.iconst 3, 1) := by decide +kernel
theorem dX0_init_43 : decode cX0_init 43 = .ok (.newarray .int, 2) := by decide +kernel
theorem dX0_init_45 : decode cX0_init 45 = .ok (.dup, 1) := by decide +kernel
theorem dX0_init_46 : decode cX0_init 46 = .ok (.iconst 0, 1) := by decide +kernel
theorem dX0_init_47 : decode cX0_init 47 = .ok (.iconst 0, 1) := by decide +kernel
theorem dX0_init_48 : decode cX0_init 48 = .ok (.iastore, 1) := by decide +kernel
theorem dX0_init_49 : decode cX0_init 49 = .ok (.dup, 1) := by decide +kernel
theorem dX0_init_50 : decode cX0_init 50 = .ok (.iconst 1, 1) := by decide +kernel
theorem dX0_init_51 : decode cX0_init 51 = .ok (.iconst 1, 1) := by decide +kernel
theorem dX0_init_52 : decode cX0_init 52 = .ok (.iastore, 1) := by decide +kernel
theorem dX0_init_53 : decode cX0_init 53 = .ok (.dup, 1) := by decide +kernel
theorem dX0_init_54 : decode cX0_init 54 = .ok (.iconst 2, 1) := by decide +kernel
theorem dX0_init_55 : decode cX0_init 55 = .ok (.iconst 2, 1) := by decide +kernel
theorem dX0_init_56 : decode cX0_init 56 = .ok (.iastore, 1) := by decide +kernel
theorem dX0_init_57 : decode cX0_init 57 = .ok (.putfield 31, 3) := by decide +kernel
theorem dX0_init_60 : decode cX0_init 60 = .ok (.aload_n 0, 1) := by decide +kernel
theorem dX0_init_61 : decode cX0_init 61 = .ok (.getfield 12, 3) := by decide +kernel
theorem dX0_init_64 : decode cX0_init 64 = .ok (.ldc2_w 34, 3) := by decide +kernel
theorem dX0_init_67 : decode cX0_init 67 = .ok (.putfield 36, 3) := by decide +kernel
theorem dX0_init_70 : decode cX0_init 70 = .ok (.iconst 0, 1) := by decide +kernel
theorem dX0_init_71 : decode cX0_init 71 = .ok (.istore_n 1, 1) := by decide +kernel
theorem dX0_init_72 : decode cX0_init 72 = .ok (.iload_n 1, 1) := by decide +kernel
theorem dX0_init_73 : decode cX0_init 73 = .ok (.iconst 3, 1) := by decide +kernel
theorem dX0_init_74 : decode cX0_init 74 = .ok (.if_icmp .ge 31, 3) := by decide +kernel
theorem dX0_init_77 : decode cX0_init 77 = .ok (.iconst 0, 1) := by decide +kernel
theorem dX0_init_78 : decode cX0_init 78 = .ok (.istore_n 2, 1) := by decide +kernel
theorem dX0_init_79 : decode cX0_init 79 = .ok (.iload_n 2, 1) := by decide +kernel
theorem dX0_init_80 : decode cX0_init 80 = .ok (.iconst 4, 1) := by decide +kernel
theorem dX0_init_81 : decode cX0_init 81 = .ok (.if_icmp .ge 18, 3) := by decide +kernel
theorem dX0_init_84 : decode cX0_init 84 = .ok (.aload_n 0, 1) := by decide +kernel
theorem dX0_init_85 : decode cX0_init 85 = .ok (.getfield 28, 3) := by decide +kernel
theorem dX0_init_88 : decode cX0_init 88 = .ok (.iload_n 1, 1) := by decide +kernel
theorem dX0_init_89 : decode cX0_init 89 = .ok (.aaload, 1) := by decide +kernel
theorem dX0_init_90 : decode cX0_init 90 = .ok (.iload_n 2, 1) := by decide +kernel
theorem dX0_init_91 : decode cX0_init 91 = .ok (.iconst (-1), 1) := by decide +kernel
theorem dX0_init_92 : decode cX0_init 92 = .ok (.iastore, 1) := by decide +kernel
theorem dX0_init_93 : decode cX0_init 93 = .ok (.iinc 2 1, 3) := by decide +kernel
theorem dX0_init_96 : decode cX0_init 96 = .ok (.goto (-17), 3) := by decide +kernel
theorem dX0_init_99 : decode cX0_init 99 = .ok (.iinc 1 1, 3) := by decide +kernel
theorem dX0_init_102 : decode cX0_init 102 = .ok (.goto (-30), 3) := by decide +kernel
theorem dX0_init_105 : decode cX0_init 105 = .ok (.return_, 1) := by decide +kernel
theorem dX0_takeFrom_0 : decode cX0_takeFrom 0 = .ok (.aload_n 0, 1) := by decide +kernel
theorem dX0_takeFrom_1 : decode cX0_takeFrom 1 = .ok (.getfield 12, 3) := by decide +kernel
theorem dX0_takeFrom_4 : decode cX0_takeFrom 4 = .ok (.aload_n 1, 1) := by decide +kernel
theorem dX0_takeFrom_5 : decode cX0_takeFrom 5 = .ok (.getfield 12, 3) := by decide +kernel
theorem dX0_takeFrom_8 : decode cX0_takeFrom 8 = .ok (.invokevirtual 40, 3) := by decide +kernel
theorem dX0_takeFrom_11 : decode cX0_takeFrom 11 = .ok (.aload_n 0, 1) := by decide +kernel
theorem dX0_takeFrom_12 : decode cX0_takeFrom 12 = .ok (.aload_n 1, 1) := by decide +kernel
theorem dX0_takeFrom_13 : decode cX0_takeFrom 13 = .ok (.getfield 44, 3) := by decide +kernel
theorem dX0_takeFrom_16 : decode cX0_takeFrom 16 = .ok (.putfield 44, 3) := by decide +kernel
theorem dX0_takeFrom_19 : decode cX0_takeFrom 19 = .ok (.aload_n 1, 1) := by decide +kernel
theorem dX0_takeFrom_20 : decode cX0_takeFrom 20 = .ok (.getfield 18, 3) := by decide +kernel
theorem dX0_takeFrom_23 : decode cX0_takeFrom 23 = .ok (.iconst 0, 1) := by decide +kernel
theorem dX0_takeFrom_24 : decode cX0_takeFrom 24 = .ok (.aload_n 0, 1) := by decide +kernel
theorem dX0_takeFrom_25 : decode cX0_takeFrom 25 = .ok (.getfield 18, 3) := by decide +kernel
theorem dX0_takeFrom_28 : decode cX0_takeFrom 28 = .ok (.iconst 0, 1) := by decide +kernel
theorem dX0_takeFrom_29 : decode cX0_takeFrom 29 = .ok (.bipush 8, 2) := by decide +kernel
theorem dX0_takeFrom_31 : decode cX0_takeFrom 31 = .ok (.invokestatic 48, 3) := by decide +kernel
theorem dX0_takeFrom_34 : decode cX0_takeFrom 34 = .ok (.aload_n 1, 1) := by decide +kernel
theorem dX0_takeFrom_35 : decode cX0_takeFrom 35 = .ok (.getfield 22, 3) := by decide +kernel
theorem dX0_takeFrom_38 : decode cX0_takeFrom 38 = .ok (.iconst 0, 1) := by decide +kernel
theorem dX0_takeFrom_39 : decode cX0_takeFrom 39 = .ok (.aload_n 0, 1) := by decide +kernel
theorem dX0_takeFrom_40 : decode cX0_takeFrom 40 = .ok (.getfield 22, 3) := by decide +kernel
theorem dX0_takeFrom_43 : decode cX0_takeFrom 43 = .ok (.iconst 0, 1) := by decide +kernel
theorem dX0_takeFrom_44 : decode cX0_takeFrom 44 = .ok (.bipush 8, 2) := by decide +kernel
theorem dX0_takeFrom_46 : decode cX0_takeFrom 46 = .ok (.invokestatic 48, 3) := by decide +kernel
theorem dX0_takeFrom_49 : decode cX0_takeFrom 49 = .ok (.aload_n 1, 1) := by decide +kernel
theorem dX0_takeFrom_50 : decode cX0_takeFrom 50 = .ok (.getfield 31, 3) := by decide +kernel
theorem dX0_takeFrom_53 : decode cX0_takeFrom 53 = .ok (.iconst 0, 1) := by decide +kernel
theorem dX0_takeFrom_54 : decode cX0_takeFrom 54 = .ok (.aload_n 0, 1) := by decide +kernel
theorem dX0_takeFrom_55 : decode cX0_takeFrom 55 = .ok (.getfield 31, 3) := by decide +kernel
theorem dX0_takeFrom_58 : decode cX0_takeFrom 58 = .ok (.iconst 0, 1) := by decide +kernel
theorem dX0_takeFrom_59 : decode cX0_takeFrom 59 = .ok (.iconst 3, 1) := by decide +kernel
theorem dX0_takeFrom_60 : decode cX0_takeFrom 60 = .ok (.invokestatic 48, 3) := by decide +kernel
theorem dX0_takeFrom_63 : decode cX0_takeFrom 63 = .ok (.iconst 0, 1) := by decide +kernel
theorem dX0_takeFrom_64 : decode cX0_takeFrom 64 = .ok (.istore_n 2, 1) := by decide +kernel
theorem dX0_takeFrom_65 : decode cX0_takeFrom 65 = .ok (.iload_n 2, 1) := by decide +kernel
theorem dX0_takeFrom_66 : decode cX0_takeFrom 66 = .ok (.iconst 3, 1) := by decide +kernel
theorem dX0_takeFrom_67 : decode cX0_takeFrom 67 = .ok (.if_icmp .ge 27, 3) := by decide +kernel
theorem dX0_takeFrom_70 : decode cX0_takeFrom 70 = .ok (.aload_n 1, 1) := by decide +kernel
theorem dX0_takeFrom_71 : decode cX0_takeFrom 71 = .ok (.getfield 28, 3) := by decide +kernel
theorem dX0_takeFrom_74 : decode cX0_takeFrom 74 = .ok (.iload_n 2, 1) := by decide +kernel
theorem dX0_takeFrom_75 : decode cX0_takeFrom 75 = .ok (.aaload, 1) := by decide +kernel
theorem dX0_takeFrom_76 : decode cX0_takeFrom 76 = .ok (.iconst 0, 1) := by decide +kernel
theorem dX0_takeFrom_77 : decode cX0_takeFrom 77 = .ok (.aload_n 0, 1) := by decide +kernel
theorem dX0_takeFrom_78 : decode cX0_takeFrom 78 = .ok (.getfield 28, 3) := by decide +kernel
theorem dX0_takeFrom_81 : decode cX0_takeFrom 81 = .ok (.iload_n 2, 1) := by decide +kernel
theorem dX0_takeFrom_82 : decode cX0_takeFrom 82 = .ok (.aaload, 1) := by decide +kernel
theorem dX0_takeFrom_83 : decode cX0_takeFrom 83 = .ok (.iconst 0, 1) := by decide +kernel
theorem dX0_takeFrom_84 : decode cX0_takeFrom 84 = .ok (.iconst 4, 1) := by decide +kernel
theorem dX0_takeFrom_85 : decode cX0_takeFrom 85 = .ok (.invokestatic 48, 3) := by decide +kernel
theorem dX0_takeFrom_88 : decode cX0_takeFrom 88 = .ok (.iinc 2 1, 3) := by decide +kernel
theorem dX0_takeFrom_91 : decode cX0_takeFrom 91 = .ok (.goto (-26), 3) := by decide +kernel
theorem dX0_takeFrom_94 : decode cX0_takeFrom 94 = .ok (.return_, 1) := by decide +kernel
theorem dX0_has_0 : decode cX0_has 0 = .ok (.iload_n 1, 1) := by decide +kernel
theorem dX0_has_1 : decode cX0_has 1 = .ok (.ifCond .lt 15, 3) := by decide +kernel
theorem dX0_has_4 : decode cX0_has 4 = .ok (.iload_n 1, 1) := by decide +kernel
theorem dX0_has_5 : decode cX0_has 5 = .ok (.aload_n 0, 1) := by decide +kernel
theorem dX0_has_6 : decode cX0_has 6 = .ok (.getfield 44, 3) := by decide +kernel
theorem dX0_has_9 : decode cX0_has 9 = .ok (.if_icmp .ge 7, 3) := by decide +kernel
theorem dX0_has_12 : decode cX0_has 12 = .ok (.iconst 1, 1) := by decide +kernel
theorem dX0_has_13 : decode cX0_has 13 = .ok (.goto 4, 3) := by decide +kernel
theorem dX0_has_16 : decode cX0_has 16 = .ok (.iconst 0, 1) := by decide +kernel
theorem dX0_has_17 : decode cX0_has 17 = .ok (.ireturn, 1) := by decide +kernel
theorem dX0_append_0 : decode cX0_append 0 = .ok (.aload_n 0, 1) := by decide +kernel
theorem dX0_append_1 : decode cX0_append 1 = .ok (.getfield 44, 3) := by decide +kernel
theorem dX0_append_4 : decode cX0_append 4 = .ok (.bipush 8, 2) := by decide +kernel
theorem dX0_append_6 : decode cX0_append 6 = .ok (.if_icmp .lt 6, 3) := by decide +kernel
theorem dX0_append_9 : decode cX0_append 9 = .ok (.bipush (-4), 2) := by decide +kernel
theorem dX0_append_11 : decode cX0_append 11 = .ok (.ireturn, 1) := by decide +kernel
theorem dX0_append_12 : decode cX0_append 12 = .ok (.aload_n 0, 1) := by decide +kernel
theorem dX0_append_13 : decode cX0_append 13 = .ok (.getfield 18, 3) := by decide +kernel
theorem dX0_append_16 : decode cX0_append 16 = .ok (.aload_n 0, 1) := by decide +kernel
theorem dX0_append_17 : decode cX0_append 17 = .ok (.getfield 44, 3) := by decide +kernel
theorem dX0_append_20 : decode cX0_append 20 = .ok (.iload_n 1, 1) := by decide +kernel
theorem dX0_append_21 : decode cX0_append 21 = .ok (.iastore, 1) := by decide +kernel
theorem dX0_append_22 : decode cX0_append 22 = .ok (.aload_n 0, 1) := by decide +kernel
theorem dX0_append_23 : decode cX0_append 23 = .ok (.dup, 1) := by decide +kernel
theorem dX0_append_24 : decode cX0_append 24 = .ok (.getfield 44, 3) := by decide +kernel
theorem dX0_append_27 : decode cX0_append 27 = .ok (.iconst 1, 1) := by decide +kernel
theorem dX0_append_28 : decode cX0_append 28 = .ok (.iadd, 1) := by decide +kernel
theorem dX0_append_29 : decode cX0_append 29 = .ok (.putfield 44, 3) := by decide +kernel
theorem dX0_append_32 : decode cX0_append 32 = .ok (.aload_n 0, 1) := by decide +kernel
theorem dX0_append_33 : decode cX0_append 33 = .ok (.getfield 44, 3) := by decide +kernel
theorem dX0_append_36 : decode cX0_append 36 = .ok (.iconst 1, 1) := by decide +kernel
theorem dX0_append_37 : decode cX0_append 37 = .ok (.isub, 1) := by decide +kernel
theorem dX0_append_38 : decode cX0_append 38 = .ok (.ireturn, 1) := by decide +kernel
theorem dX0_takeOut_0 : decode cX0_takeOut 0 = .ok (.iload_n 1, 1) := by decide +kernel
theorem dX0_takeOut_1 : decode cX0_takeOut 1 = .ok (.istore_n 2, 1) := by decide +kernel
theorem dX0_takeOut_2 : decode cX0_takeOut 2 = .ok (.iload_n 2, 1) := by decide +kernel
theorem dX0_takeOut_3 : decode cX0_takeOut 3 = .ok (.iconst 1, 1) := by decide +kernel
theorem dX0_takeOut_4 : decode cX0_takeOut 4 = .ok (.iadd, 1) := by decide +kernel
theorem dX0_takeOut_5 : decode cX0_takeOut 5 = .ok (.aload_n 0, 1) := by decide +kernel
theorem dX0_takeOut_6 : decode cX0_takeOut 6 = .ok (.getfield 44, 3) := by decide +kernel
theorem dX0_takeOut_9 : decode cX0_takeOut 9 = .ok (.if_icmp .ge 23, 3) := by decide +kernel
theorem dX0_takeOut_12 : decode cX0_takeOut 12 = .ok (.aload_n 0, 1) := by decide +kernel
theorem dX0_takeOut_13 : decode cX0_takeOut 13 = .ok (.getfield 18, 3) := by decide +kernel
theorem dX0_takeOut_16 : decode cX0_takeOut 16 = .ok (.iload_n 2, 1) := by decide +kernel
theorem dX0_takeOut_17 : decode cX0_takeOut 17 = .ok (.aload_n 0, 1) := by decide +kernel
theorem dX0_takeOut_18 : decode cX0_takeOut 18 = .ok (.getfield 18, 3) := by decide +kernel
theorem dX0_takeOut_21 : decode cX0_takeOut 21 = .ok (.iload_n 2, 1) := by decide +kernel
theorem dX0_takeOut_22 : decode cX0_takeOut 22 = .ok (.iconst 1, 1) := by decide +kernel
theorem dX0_takeOut_23 : decode cX0_takeOut 23 = .ok (.iadd, 1) := by decide +kernel
theorem dX0_takeOut_24 : decode cX0_takeOut 24 = .ok (.iaload, 1) := by decide +kernel
theorem dX0_takeOut_25 : decode cX0_takeOut 25 = .ok (.iastore, 1) := by decide +kernel
theorem dX0_takeOut_26 : decode cX0_takeOut 26 = .ok (.iinc 2 1, 3) := by decide +kernel
theorem dX0_takeOut_29 : decode cX0_takeOut 29 = .ok (.goto (-27), 3) := by decide +kernel
theorem dX0_takeOut_32 : decode cX0_takeOut 32 = .ok (.aload_n 0, 1) := by decide +kernel
theorem dX0_takeOut_33 : decode cX0_takeOut 33 = .ok (.dup, 1) := by decide +kernel
theorem dX0_takeOut_34 : decode cX0_takeOut 34 = .ok (.getfield 44, 3) := by decide +kernel
theorem dX0_takeOut_37 : decode cX0_takeOut 37 = .ok (.iconst 1, 1) := by decide +kernel
theorem dX0_takeOut_38 : decode cX0_takeOut 38 = .ok (.isub, 1) := by decide +kernel
theorem dX0_takeOut_39 : decode cX0_takeOut 39 = .ok (.putfield 44, 3) := by decide +kernel
theorem dX0_takeOut_42 : decode cX0_takeOut 42 = .ok (.return_, 1) := by decide +kernel
theorem dX0_putIn_0 : decode cX0_putIn 0 = .ok (.aload_n 0, 1) := by decide +kernel
theorem dX0_putIn_1 : decode cX0_putIn 1 = .ok (.getfield 44, 3) := by decide +kernel
theorem dX0_putIn_4 : decode cX0_putIn 4 = .ok (.bipush 8, 2) := by decide +kernel
theorem dX0_putIn_6 : decode cX0_putIn 6 = .ok (.if_icmp .lt 4, 3) := by decide +kernel
theorem dX0_putIn_9 : decode cX0_putIn 9 = .ok (.return_, 1) := by decide +kernel
theorem dX0_putIn_10 : decode cX0_putIn 10 = .ok (.aload_n 0, 1) := by decide +kernel
theorem dX0_putIn_11 : decode cX0_putIn 11 = .ok (.getfield 44, 3) := by decide +kernel
theorem dX0_putIn_14 : decode cX0_putIn 14 = .ok (.istore_n 3, 1) := by decide +kernel
theorem dX0_putIn_15 : decode cX0_putIn 15 = .ok (.iload_n 3, 1) := by decide +kernel
theorem dX0_putIn_16 : decode cX0_putIn 16 = .ok (.iload_n 1, 1) := by decide +kernel
theorem dX0_putIn_17 : decode cX0_putIn 17 = .ok (.if_icmp .le 23, 3) := by decide +kernel
theorem dX0_putIn_20 : decode cX0_putIn 20 = .ok (.aload_n 0, 1) := by decide +kernel
theorem dX0_putIn_21 : decode cX0_putIn 21 = .ok (.getfield 18, 3) := by decide +kernel
theorem dX0_putIn_24 : decode cX0_putIn 24 = .ok (.iload_n 3, 1) := by decide +kernel
theorem dX0_putIn_25 : decode cX0_putIn 25 = .ok (.aload_n 0, 1) := by decide +kernel
theorem dX0_putIn_26 : decode cX0_putIn 26 = .ok (.getfield 18, 3) := by decide +kernel
theorem dX0_putIn_29 : decode cX0_putIn 29 = .ok (.iload_n 3, 1) := by decide +kernel
theorem dX0_putIn_30 : decode cX0_putIn 30 = .ok (.iconst 1, 1) := by decide +kernel
theorem dX0_putIn_31 : decode cX0_putIn 31 = .ok (.isub, 1) := by decide +kernel
theorem dX0_putIn_32 : decode cX0_putIn 32 = .ok (.iaload, 1) := by decide +kernel
theorem dX0_putIn_33 : decode cX0_putIn 33 = .ok (.iastore, 1) := by decide +kernel
theorem dX0_putIn_34 : decode cX0_putIn 34 = .ok (.iinc 3 (-1), 3) := by decide +kernel
theorem dX0_putIn_37 : decode cX0_putIn 37 = .ok (.goto (-22), 3) := by decide +kernel
theorem dX0_putIn_40 : decode cX0_putIn 40 = .ok (.aload_n 0, 1) := by decide +kernel
theorem dX0_putIn_41 : decode cX0_putIn 41 = .ok (.getfield 18, 3) := by decide +kernel
theorem dX0_putIn_44 : decode cX0_putIn 44 = .ok (.iload_n 1, 1) := by decide +kernel
theorem dX0_putIn_45 : decode cX0_putIn 45 = .ok (.iload_n 2, 1) := by decide +kernel
theorem dX0_putIn_46 : decode cX0_putIn 46 = .ok (.iastore, 1) := by decide +kernel
theorem dX0_putIn_47 : decode cX0_putIn 47 = .ok (.aload_n 0, 1) := by decide +kernel
theorem dX0_putIn_48 : decode cX0_putIn 48 = .ok (.dup, 1) := by decide +kernel
theorem dX0_putIn_49 : decode cX0_putIn 49 = .ok (.getfield 44, 3) := by decide +kernel
theorem dX0_putIn_52 : decode cX0_putIn 52 = .ok (.iconst 1, 1) := by decide +kernel
theorem dX0_putIn_53 : decode cX0_putIn 53 = .ok (.iadd, 1) := by decide +kernel
theorem dX0_putIn_54 : decode cX0_putIn 54 = .ok (.putfield 44, 3) := by decide +kernel
theorem dX0_putIn_57 : decode cX0_putIn 57 = .ok (.return_, 1) := by decide +kernel
theorem dX0_send_0 : decode cX0_send 0 = .ok (.iload_n 2, 1) := by decide +kernel
theorem dX0_send_1 : decode cX0_send 1 = .ok (.istore 4, 2) := by decide +kernel
theorem dX0_send_3 : decode cX0_send 3 = .ok (.iload 4, 2) := by decide +kernel
theorem dX0_send_5 : decode cX0_send 5 = .ok (.iload_n 3, 1) := by decide +kernel
theorem dX0_send_6 : decode cX0_send 6 = .ok (.if_icmp .ge 29, 3) := by decide +kernel
theorem dX0_send_9 : decode cX0_send 9 = .ok (.iload 4, 2) := by decide +kernel
theorem dX0_send_11 : decode cX0_send 11 = .ok (.aload_n 0, 1) := by decide +kernel
theorem dX0_send_12 : decode cX0_send 12 = .ok (.getfield 44, 3) := by decide +kernel
theorem dX0_send_15 : decode cX0_send 15 = .ok (.if_icmp .ge 20, 3) := by decide +kernel
theorem dX0_send_18 : decode cX0_send 18 = .ok (.aload_n 1, 1) := by decide +kernel
theorem dX0_send_19 : decode cX0_send 19 = .ok (.aload_n 0, 1) := by decide +kernel
theorem dX0_send_20 : decode cX0_send 20 = .ok (.getfield 18, 3) := by decide +kernel
theorem dX0_send_23 : decode cX0_send 23 = .ok (.iload 4, 2) := by decide +kernel
theorem dX0_send_25 : decode cX0_send 25 = .ok (.iaload, 1) := by decide +kernel
theorem dX0_send_26 : decode cX0_send 26 = .ok (.invokevirtual 54, 3) := by decide +kernel
theorem dX0_send_29 : decode cX0_send 29 = .ok (.iinc 4 1, 3) := by decide +kernel
theorem dX0_send_32 : decode cX0_send 32 = .ok (.goto (-29), 3) := by decide +kernel
theorem dX0_send_35 : decode cX0_send 35 = .ok (.return_, 1) := by decide +kernel
theorem dX0_canGoBack_0 : decode cX0_canGoBack 0 = .ok (.iconst 0, 1) := by decide +kernel
theorem dX0_canGoBack_1 : decode cX0_canGoBack 1 = .ok (.istore_n 1, 1) := by decide +kernel
theorem dX0_canGoBack_2 : decode cX0_canGoBack 2 = .ok (.iload_n 1, 1) := by decide +kernel
theorem dX0_canGoBack_3 : decode cX0_canGoBack 3 = .ok (.aload_n 0, 1) := by decide +kernel
theorem dX0_canGoBack_4 : decode cX0_canGoBack 4 = .ok (.getfield 44, 3) := by decide +kernel
theorem dX0_canGoBack_7 : decode cX0_canGoBack 7 = .ok (.if_icmp .ge 32, 3) := by decide +kernel
theorem dX0_canGoBack_10 : decode cX0_canGoBack 10 = .ok (.aload_n 0, 1) := by decide +kernel
theorem dX0_canGoBack_11 : decode cX0_canGoBack 11 = .ok (.getfield 18, 3) := by decide +kernel
theorem dX0_canGoBack_14 : decode cX0_canGoBack 14 = .ok (.iload_n 1, 1) := by decide +kernel
theorem dX0_canGoBack_15 : decode cX0_canGoBack 15 = .ok (.iaload, 1) := by decide +kernel
theorem dX0_canGoBack_16 : decode cX0_canGoBack 16 = .ok (.invokestatic 58, 3) := by decide +kernel
theorem dX0_canGoBack_19 : decode cX0_canGoBack 19 = .ok (.istore_n 2, 1) := by decide +kernel
theorem dX0_canGoBack_20 : decode cX0_canGoBack 20 = .ok (.iload_n 2, 1) := by decide +kernel
theorem dX0_canGoBack_21 : decode cX0_canGoBack 21 = .ok (.ifCond .eq 12, 3) := by decide +kernel
theorem dX0_canGoBack_24 : decode cX0_canGoBack 24 = .ok (.iload_n 2, 1) := by decide +kernel
theorem dX0_canGoBack_25 : decode cX0_canGoBack 25 = .ok (.invokestatic 62, 3) := by decide +kernel
theorem dX0_canGoBack_28 : decode cX0_canGoBack 28 = .ok (.ifCond .ne 5, 3) := by decide +kernel
theorem dX0_canGoBack_31 : decode cX0_canGoBack 31 = .ok (.iconst 0, 1) := by decide +kernel
theorem dX0_canGoBack_32 : decode cX0_canGoBack 32 = .ok (.ireturn, 1) := by decide +kernel
theorem dX0_canGoBack_33 : decode cX0_canGoBack 33 = .ok (.iinc 1 1, 3) := by decide +kernel
theorem dX0_canGoBack_36 : decode cX0_canGoBack 36 = .ok (.goto (-34), 3) := by decide +kernel
theorem dX0_canGoBack_39 : decode cX0_canGoBack 39 = .ok (.iconst 1, 1) := by decide +kernel
theorem dX0_canGoBack_40 : decode cX0_canGoBack 40 = .ok (.ireturn, 1) := by decide +kernel
theorem dX0_howMany_0 : decode cX0_howMany 0 = .ok (.iconst 0, 1) := by decide +kernel
theorem dX0_howMany_1 : decode cX0_howMany 1 = .ok (.istore_n 3, 1) := by decide +kernel
theorem dX0_howMany_2 : decode cX0_howMany 2 = .ok (.iconst 0, 1) := by decide +kernel
theorem dX0_howMany_3 : decode cX0_howMany 3 = .ok (.istore 4, 2) := by decide +kernel
theorem dX0_howMany_5 : decode cX0_howMany 5 = .ok (.iload 4, 2) := by decide +kernel
theorem dX0_howMany_7 : decode cX0_howMany 7 = .ok (.iload_n 2, 1) := by decide +kernel
theorem dX0_howMany_8 : decode cX0_howMany 8 = .ok (.if_icmp .ge 32, 3) := by decide +kernel
theorem dX0_howMany_11 : decode cX0_howMany 11 = .ok (.iload 4, 2) := by decide +kernel
theorem dX0_howMany_13 : decode cX0_howMany 13 = .ok (.aload_n 0, 1) := by decide +kernel
theorem dX0_howMany_14 : decode cX0_howMany 14 = .ok (.getfield 44, 3) := by decide +kernel
theorem dX0_howMany_17 : decode cX0_howMany 17 = .ok (.if_icmp .ge 23, 3) := by decide +kernel
theorem dX0_howMany_20 : decode cX0_howMany 20 = .ok (.aload_n 0, 1) := by decide +kernel
theorem dX0_howMany_21 : decode cX0_howMany 21 = .ok (.getfield 18, 3) := by decide +kernel
theorem dX0_howMany_24 : decode cX0_howMany 24 = .ok (.iload 4, 2) := by decide +kernel
theorem dX0_howMany_26 : decode cX0_howMany 26 = .ok (.iaload, 1) := by decide +kernel
theorem dX0_howMany_27 : decode cX0_howMany 27 = .ok (.iload_n 1, 1) := by decide +kernel
theorem dX0_howMany_28 : decode cX0_howMany 28 = .ok (.if_icmp .ne 6, 3) := by decide +kernel
theorem dX0_howMany_31 : decode cX0_howMany 31 = .ok (.iinc 3 1, 3) := by decide +kernel
theorem dX0_howMany_34 : decode cX0_howMany 34 = .ok (.iinc 4 1, 3) := by decide +kernel
theorem dX0_howMany_37 : decode cX0_howMany 37 = .ok (.goto (-32), 3) := by decide +kernel
theorem dX0_howMany_40 : decode cX0_howMany 40 = .ok (.iload_n 3, 1) := by decide +kernel
theorem dX0_howMany_41 : decode cX0_howMany 41 = .ok (.ireturn, 1) := by decide +kernel
theorem dX0_racked_0 : decode cX0_racked 0 = .ok (.iconst 0, 1) := by decide +kernel
theorem dX0_racked_1 : decode cX0_racked 1 = .ok (.istore_n 2, 1) := by decide +kernel
theorem dX0_racked_2 : decode cX0_racked 2 = .ok (.iconst 0, 1) := by decide +kernel
theorem dX0_racked_3 : decode cX0_racked 3 = .ok (.istore_n 3, 1) := by decide +kernel
theorem dX0_racked_4 : decode cX0_racked 4 = .ok (.iload_n 3, 1) := by decide +kernel
theorem dX0_racked_5 : decode cX0_racked 5 = .ok (.iconst 4, 1) := by decide +kernel
theorem dX0_racked_6 : decode cX0_racked 6 = .ok (.if_icmp .ge 24, 3) := by decide +kernel
theorem dX0_racked_9 : decode cX0_racked 9 = .ok (.aload_n 0, 1) := by decide +kernel
theorem dX0_racked_10 : decode cX0_racked 10 = .ok (.getfield 28, 3) := by decide +kernel
theorem dX0_racked_13 : decode cX0_racked 13 = .ok (.iload_n 1, 1) := by decide +kernel
theorem dX0_racked_14 : decode cX0_racked 14 = .ok (.aaload, 1) := by decide +kernel
theorem dX0_racked_15 : decode cX0_racked 15 = .ok (.iload_n 3, 1) := by decide +kernel
theorem dX0_racked_16 : decode cX0_racked 16 = .ok (.iaload, 1) := by decide +kernel
theorem dX0_racked_17 : decode cX0_racked 17 = .ok (.iconst (-1), 1) := by decide +kernel
theorem dX0_racked_18 : decode cX0_racked 18 = .ok (.if_icmp .eq 6, 3) := by decide +kernel
theorem dX0_racked_21 : decode cX0_racked 21 = .ok (.iinc 2 1, 3) := by decide +kernel
theorem dX0_racked_24 : decode cX0_racked 24 = .ok (.iinc 3 1, 3) := by decide +kernel
theorem dX0_racked_27 : decode cX0_racked 27 = .ok (.goto (-23), 3) := by decide +kernel
theorem dX0_racked_30 : decode cX0_racked 30 = .ok (.iload_n 2, 1) := by decide +kernel
theorem dX0_racked_31 : decode cX0_racked 31 = .ok (.ireturn, 1) := by decide +kernel
theorem dX0_litCells_0 : decode cX0_litCells 0 = .ok (.iconst 0, 1) := by decide +kernel
theorem dX0_litCells_1 : decode cX0_litCells 1 = .ok (.istore_n 1, 1) := by decide +kernel
theorem dX0_litCells_2 : decode cX0_litCells 2 = .ok (.iconst 0, 1) := by decide +kernel
theorem dX0_litCells_3 : decode cX0_litCells 3 = .ok (.istore_n 2, 1) := by decide +kernel
theorem dX0_litCells_4 : decode cX0_litCells 4 = .ok (.iload_n 2, 1) := by decide +kernel
theorem dX0_litCells_5 : decode cX0_litCells 5 = .ok (.bipush 8, 2) := by decide +kernel
theorem dX0_litCells_7 : decode cX0_litCells 7 = .ok (.if_icmp .ge 23, 3) := by decide +kernel
theorem dX0_litCells_10 : decode cX0_litCells 10 = .ok (.aload_n 0, 1) := by decide +kernel
theorem dX0_litCells_11 : decode cX0_litCells 11 = .ok (.getfield 22, 3) := by decide +kernel
theorem dX0_litCells_14 : decode cX0_litCells 14 = .ok (.iload_n 2, 1) := by decide +kernel
theorem dX0_litCells_15 : decode cX0_litCells 15 = .ok (.faload, 1) := by decide +kernel
theorem dX0_litCells_16 : decode cX0_litCells 16 = .ok (.fconst 0, 1) := by decide +kernel
theorem dX0_litCells_17 : decode cX0_litCells 17 = .ok (.fcmp .l, 1) := by decide +kernel
theorem dX0_litCells_18 : decode cX0_litCells 18 = .ok (.ifCond .eq 6, 3) := by decide +kernel
theorem dX0_litCells_21 : decode cX0_litCells 21 = .ok (.iinc 1 1, 3) := by decide +kernel
theorem dX0_litCells_24 : decode cX0_litCells 24 = .ok (.iinc 2 1, 3) := by decide +kernel
theorem dX0_litCells_27 : decode cX0_litCells 27 = .ok (.goto (-23), 3) := by decide +kernel
theorem dX0_litCells_30 : decode cX0_litCells 30 = .ok (.iload_n 1, 1) := by decide +kernel
theorem dX0_litCells_31 : decode cX0_litCells 31 = .ok (.ireturn, 1) := by decide +kernel
theorem dX1_init_0 : decode cX1_init 0 = .ok (.aload_n 0, 1) := by decide +kernel
theorem dX1_init_1 : decode cX1_init 1 = .ok (.invokespecial 3, 3) := by decide +kernel
theorem dX1_init_4 : decode cX1_init 4 = .ok (.return_, 1) := by decide +kernel
theorem dX1_become_0 : decode cX1_become 0 = .ok (.aload_n 0, 1) := by decide +kernel
theorem dX1_become_1 : decode cX1_become 1 = .ok (.lload_n 1, 1) := by decide +kernel
theorem dX1_become_2 : decode cX1_become 2 = .ok (.putfield 9, 3) := by decide +kernel
theorem dX1_become_5 : decode cX1_become 5 = .ok (.aload_n 0, 1) := by decide +kernel
theorem dX1_become_6 : decode cX1_become 6 = .ok (.lload_n 3, 1) := by decide +kernel
theorem dX1_become_7 : decode cX1_become 7 = .ok (.putfield 15, 3) := by decide +kernel
theorem dX1_become_10 : decode cX1_become 10 = .ok (.aload_n 0, 1) := by decide +kernel
theorem dX1_become_11 : decode cX1_become 11 = .ok (.lload 5, 2) := by decide +kernel
theorem dX1_become_13 : decode cX1_become 13 = .ok (.putfield 18, 3) := by decide +kernel
theorem dX1_become_16 : decode cX1_become 16 = .ok (.aload_n 0, 1) := by decide +kernel
theorem dX1_become_17 : decode cX1_become 17 = .ok (.lload 7, 2) := by decide +kernel
theorem dX1_become_19 : decode cX1_become 19 = .ok (.putfield 21, 3) := by decide +kernel
theorem dX1_become_22 : decode cX1_become 22 = .ok (.aload_n 0, 1) := by decide +kernel
theorem dX1_become_23 : decode cX1_become 23 = .ok (.iload 9, 2) := by decide +kernel
theorem dX1_become_25 : decode cX1_become 25 = .ok (.putfield 24, 3) := by decide +kernel
theorem dX1_become_28 : decode cX1_become 28 = .ok (.return_, 1) := by decide +kernel
theorem dX1_becomeUnit_0 : decode cX1_becomeUnit 0 = .ok (.aload_n 0, 1) := by decide +kernel
theorem dX1_becomeUnit_1 : decode cX1_becomeUnit 1 = .ok (.iload_n 1, 1) := by decide +kernel
theorem dX1_becomeUnit_2 : decode cX1_becomeUnit 2 = .ok (.ifCond .ne 7, 3) := by decide +kernel
theorem dX1_becomeUnit_5 : decode cX1_becomeUnit 5 = .ok (.lconst 1, 1) := by decide +kernel
theorem dX1_becomeUnit_6 : decode cX1_becomeUnit 6 = .ok (.goto 4, 3) := by decide +kernel
theorem dX1_becomeUnit_9 : decode cX1_becomeUnit 9 = .ok (.lconst 0, 1) := by decide +kernel
theorem dX1_becomeUnit_10 : decode cX1_becomeUnit 10 = .ok (.iload_n 1, 1) := by decide +kernel
theorem dX1_becomeUnit_11 : decode cX1_becomeUnit 11 = .ok (.iconst 1, 1) := by decide +kernel
theorem dX1_becomeUnit_12 : decode cX1_becomeUnit 12 = .ok (.if_icmp .ne 7, 3) := by decide +kernel
theorem dX1_becomeUnit_15 : decode cX1_becomeUnit 15 = .ok (.lconst 1, 1) := by decide +kernel
theorem dX1_becomeUnit_16 : decode cX1_becomeUnit 16 = .ok (.goto 4, 3) := by decide +kernel
theorem dX1_becomeUnit_19 : decode cX1_becomeUnit 19 = .ok (.lconst 0, 1) := by decide +kernel
theorem dX1_becomeUnit_20 : decode cX1_becomeUnit 20 = .ok (.iload_n 1, 1) := by decide +kernel
theorem dX1_becomeUnit_21 : decode cX1_becomeUnit 21 = .ok (.iconst 2, 1) := by decide +kernel
theorem dX1_becomeUnit_22 : decode cX1_becomeUnit 22 = .ok (.if_icmp .ne 7, 3) := by decide +kernel
theorem dX1_becomeUnit_25 : decode cX1_becomeUnit 25 = .ok (.lconst 1, 1) := by decide +kernel
theorem dX1_becomeUnit_26 : decode cX1_becomeUnit 26 = .ok (.goto 4, 3) := by decide +kernel
theorem dX1_becomeUnit_29 : decode cX1_becomeUnit 29 = .ok (.lconst 0, 1) := by decide +kernel
theorem dX1_becomeUnit_30 : decode cX1_becomeUnit 30 = .ok (.iload_n 1, 1) := by decide +kernel
theorem dX1_becomeUnit_31 : decode cX1_becomeUnit 31 = .ok (.iconst 3, 1) := by decide +kernel
theorem dX1_becomeUnit_32 : decode cX1_becomeUnit 32 = .ok (.if_icmp .ne 7, 3) := by decide +kernel
theorem dX1_becomeUnit_35 : decode cX1_becomeUnit 35 = .ok (.lconst 1, 1) := by decide +kernel
theorem dX1_becomeUnit_36 : decode cX1_becomeUnit 36 = .ok (.goto 4, 3) := by decide +kernel
theorem dX1_becomeUnit_39 : decode cX1_becomeUnit 39 = .ok (.lconst 0, 1) := by decide +kernel
theorem dX1_becomeUnit_40 : decode cX1_becomeUnit 40 = .ok (.iconst 0, 1) := by decide +kernel
theorem dX1_becomeUnit_41 : decode cX1_becomeUnit 41 = .ok (.invokevirtual 28, 3) := by decide +kernel
theorem dX1_becomeUnit_44 : decode cX1_becomeUnit 44 = .ok (.return_, 1) := by decide +kernel
theorem dX1_takeFrom_0 : decode cX1_takeFrom 0 = .ok (.aload_n 0, 1) := by decide +kernel
theorem dX1_takeFrom_1 : decode cX1_takeFrom 1 = .ok (.aload_n 1, 1) := by decide +kernel
theorem dX1_takeFrom_2 : decode cX1_takeFrom 2 = .ok (.getfield 9, 3) := by decide +kernel
theorem dX1_takeFrom_5 : decode cX1_takeFrom 5 = .ok (.aload_n 1, 1) := by decide +kernel
theorem dX1_takeFrom_6 : decode cX1_takeFrom 6 = .ok (.getfield 15, 3) := by decide +kernel
theorem dX1_takeFrom_9 : decode cX1_takeFrom 9 = .ok (.aload_n 1, 1) := by decide +kernel
theorem dX1_takeFrom_10 : decode cX1_takeFrom 10 = .ok (.getfield 18, 3) := by decide +kernel
theorem dX1_takeFrom_13 : decode cX1_takeFrom 13 = .ok (.aload_n 1, 1) := by decide +kernel
theorem dX1_takeFrom_14 : decode cX1_takeFrom 14 = .ok (.getfield 21, 3) := by decide +kernel
theorem dX1_takeFrom_17 : decode cX1_takeFrom 17 = .ok (.aload_n 1, 1) := by decide +kernel
theorem dX1_takeFrom_18 : decode cX1_takeFrom 18 = .ok (.getfield 24, 3) := by decide +kernel
theorem dX1_takeFrom_21 : decode cX1_takeFrom 21 = .ok (.invokevirtual 28, 3) := by decide +kernel
theorem dX1_takeFrom_24 : decode cX1_takeFrom 24 = .ok (.return_, 1) := by decide +kernel
theorem dX1_part_0 : decode cX1_part 0 = .ok (.iload_n 1, 1) := by decide +kernel
theorem dX1_part_1 : decode cX1_part 1 = .ok (.tableswitch 51 0 3 #[31, 36, 41, 46], 31) := by decide +kernel
theorem dX1_part_32 : decode cX1_part 32 = .ok (.aload_n 0, 1) := by decide +kernel
theorem dX1_part_33 : decode cX1_part 33 = .ok (.getfield 9, 3) := by decide +kernel
theorem dX1_part_36 : decode cX1_part 36 = .ok (.lreturn, 1) := by decide +kernel
theorem dX1_part_37 : decode cX1_part 37 = .ok (.aload_n 0, 1) := by decide +kernel
theorem dX1_part_38 : decode cX1_part 38 = .ok (.getfield 15, 3) := by decide +kernel
theorem dX1_part_41 : decode cX1_part 41 = .ok (.lreturn, 1) := by decide +kernel
theorem dX1_part_42 : decode cX1_part 42 = .ok (.aload_n 0, 1) := by decide +kernel
theorem dX1_part_43 : decode cX1_part 43 = .ok (.getfield 18, 3) := by decide +kernel
theorem dX1_part_46 : decode cX1_part 46 = .ok (.lreturn, 1) := by decide +kernel
theorem dX1_part_47 : decode cX1_part 47 = .ok (.aload_n 0, 1) := by decide +kernel
theorem dX1_part_48 : decode cX1_part 48 = .ok (.getfield 21, 3) := by decide +kernel
theorem dX1_part_51 : decode cX1_part 51 = .ok (.lreturn, 1) := by decide +kernel
theorem dX1_part_52 : decode cX1_part 52 = .ok (.aload_n 0, 1) := by decide +kernel
theorem dX1_part_53 : decode cX1_part 53 = .ok (.getfield 24, 3) := by decide +kernel
theorem dX1_part_56 : decode cX1_part 56 = .ok (.i2l, 1) := by decide +kernel
theorem dX1_part_57 : decode cX1_part 57 = .ok (.lreturn, 1) := by decide +kernel
theorem dX1_isDark_0 : decode cX1_isDark 0 = .ok (.aload_n 0, 1) := by decide +kernel
theorem dX1_isDark_1 : decode cX1_isDark 1 = .ok (.getfield 9, 3) := by decide +kernel
theorem dX1_isDark_4 : decode cX1_isDark 4 = .ok (.lconst 0, 1) := by decide +kernel
theorem dX1_isDark_5 : decode cX1_isDark 5 = .ok (.lcmp, 1) := by decide +kernel
theorem dX1_isDark_6 : decode cX1_isDark 6 = .ok (.ifCond .ne 7, 3) := by decide +kernel
theorem dX1_isDark_9 : decode cX1_isDark 9 = .ok (.iconst 1, 1) := by decide +kernel
theorem dX1_isDark_10 : decode cX1_isDark 10 = .ok (.goto 4, 3) := by decide +kernel
theorem dX1_isDark_13 : decode cX1_isDark 13 = .ok (.iconst 0, 1) := by decide +kernel
theorem dX1_isDark_14 : decode cX1_isDark 14 = .ok (.ireturn, 1) := by decide +kernel
theorem dX1_isLike_0 : decode cX1_isLike 0 = .ok (.aload_n 0, 1) := by decide +kernel
theorem dX1_isLike_1 : decode cX1_isLike 1 = .ok (.getfield 9, 3) := by decide +kernel
theorem dX1_isLike_4 : decode cX1_isLike 4 = .ok (.aload_n 1, 1) := by decide +kernel
theorem dX1_isLike_5 : decode cX1_isLike 5 = .ok (.getfield 9, 3) := by decide +kernel
theorem dX1_isLike_8 : decode cX1_isLike 8 = .ok (.lcmp, 1) := by decide +kernel
theorem dX1_isLike_9 : decode cX1_isLike 9 = .ok (.ifCond .ne 54, 3) := by decide +kernel
theorem dX1_isLike_12 : decode cX1_isLike 12 = .ok (.aload_n 0, 1) := by decide +kernel
theorem dX1_isLike_13 : decode cX1_isLike 13 = .ok (.getfield 15, 3) := by decide +kernel
theorem dX1_isLike_16 : decode cX1_isLike 16 = .ok (.aload_n 1, 1) := by decide +kernel
theorem dX1_isLike_17 : decode cX1_isLike 17 = .ok (.getfield 15, 3) := by decide +kernel
theorem dX1_isLike_20 : decode cX1_isLike 20 = .ok (.lcmp, 1) := by decide +kernel
theorem dX1_isLike_21 : decode cX1_isLike 21 = .ok (.ifCond .ne 42, 3) := by decide +kernel
theorem dX1_isLike_24 : decode cX1_isLike 24 = .ok (.aload_n 0, 1) := by decide +kernel
theorem dX1_isLike_25 : decode cX1_isLike 25 = .ok (.getfield 18, 3) := by decide +kernel
theorem dX1_isLike_28 : decode cX1_isLike 28 = .ok (.aload_n 1, 1) := by decide +kernel
theorem dX1_isLike_29 : decode cX1_isLike 29 = .ok (.getfield 18, 3) := by decide +kernel
theorem dX1_isLike_32 : decode cX1_isLike 32 = .ok (.lcmp, 1) := by decide +kernel
theorem dX1_isLike_33 : decode cX1_isLike 33 = .ok (.ifCond .ne 30, 3) := by decide +kernel
theorem dX1_isLike_36 : decode cX1_isLike 36 = .ok (.aload_n 0, 1) := by decide +kernel
theorem dX1_isLike_37 : decode cX1_isLike 37 = .ok (.getfield 21, 3) := by decide +kernel
theorem dX1_isLike_40 : decode cX1_isLike 40 = .ok (.aload_n 1, 1) := by decide +kernel
theorem dX1_isLike_41 : decode cX1_isLike 41 = .ok (.getfield 21, 3) := by decide +kernel
theorem dX1_isLike_44 : decode cX1_isLike 44 = .ok (.lcmp, 1) := by decide +kernel
theorem dX1_isLike_45 : decode cX1_isLike 45 = .ok (.ifCond .ne 18, 3) := by decide +kernel
theorem dX1_isLike_48 : decode cX1_isLike 48 = .ok (.aload_n 0, 1) := by decide +kernel
theorem dX1_isLike_49 : decode cX1_isLike 49 = .ok (.getfield 24, 3) := by decide +kernel
theorem dX1_isLike_52 : decode cX1_isLike 52 = .ok (.aload_n 1, 1) := by decide +kernel
theorem dX1_isLike_53 : decode cX1_isLike 53 = .ok (.getfield 24, 3) := by decide +kernel
theorem dX1_isLike_56 : decode cX1_isLike 56 = .ok (.if_icmp .ne 7, 3) := by decide +kernel
theorem dX1_isLike_59 : decode cX1_isLike 59 = .ok (.iconst 1, 1) := by decide +kernel
theorem dX1_isLike_60 : decode cX1_isLike 60 = .ok (.goto 4, 3) := by decide +kernel
theorem dX1_isLike_63 : decode cX1_isLike 63 = .ok (.iconst 0, 1) := by decide +kernel
theorem dX1_isLike_64 : decode cX1_isLike 64 = .ok (.ireturn, 1) := by decide +kernel
theorem dX1_mayBe_0 : decode cX1_mayBe 0 = .ok (.aload_n 0, 1) := by decide +kernel
theorem dX1_mayBe_1 : decode cX1_mayBe 1 = .ok (.getfield 9, 3) := by decide +kernel
theorem dX1_mayBe_4 : decode cX1_mayBe 4 = .ok (.lconst 0, 1) := by decide +kernel
theorem dX1_mayBe_5 : decode cX1_mayBe 5 = .ok (.lcmp, 1) := by decide +kernel
theorem dX1_mayBe_6 : decode cX1_mayBe 6 = .ok (.ifCond .lt 57, 3) := by decide +kernel
theorem dX1_mayBe_9 : decode cX1_mayBe 9 = .ok (.aload_n 0, 1) := by decide +kernel
theorem dX1_mayBe_10 : decode cX1_mayBe 10 = .ok (.aload_n 0, 1) := by decide +kernel
theorem dX1_mayBe_11 : decode cX1_mayBe 11 = .ok (.getfield 15, 3) := by decide +kernel
theorem dX1_mayBe_14 : decode cX1_mayBe 14 = .ok (.invokevirtual 32, 3) := by decide +kernel
theorem dX1_mayBe_17 : decode cX1_mayBe 17 = .ok (.ifCond .eq 46, 3) := by decide +kernel
theorem dX1_mayBe_20 : decode cX1_mayBe 20 = .ok (.aload_n 0, 1) := by decide +kernel
theorem dX1_mayBe_21 : decode cX1_mayBe 21 = .ok (.aload_n 0, 1) := by decide +kernel
theorem dX1_mayBe_22 : decode cX1_mayBe 22 = .ok (.getfield 18, 3) := by decide +kernel
theorem dX1_mayBe_25 : decode cX1_mayBe 25 = .ok (.invokevirtual 32, 3) := by decide +kernel
theorem dX1_mayBe_28 : decode cX1_mayBe 28 = .ok (.ifCond .eq 35, 3) := by decide +kernel
theorem dX1_mayBe_31 : decode cX1_mayBe 31 = .ok (.aload_n 0, 1) := by decide +kernel
theorem dX1_mayBe_32 : decode cX1_mayBe 32 = .ok (.aload_n 0, 1) := by decide +kernel
theorem dX1_mayBe_33 : decode cX1_mayBe 33 = .ok (.getfield 21, 3) := by decide +kernel
theorem dX1_mayBe_36 : decode cX1_mayBe 36 = .ok (.invokevirtual 32, 3) := by decide +kernel
theorem dX1_mayBe_39 : decode cX1_mayBe 39 = .ok (.ifCond .eq 24, 3) := by decide +kernel
theorem dX1_mayBe_42 : decode cX1_mayBe 42 = .ok (.aload_n 0, 1) := by decide +kernel
theorem dX1_mayBe_43 : decode cX1_mayBe 43 = .ok (.invokevirtual 36, 3) := by decide +kernel
theorem dX1_mayBe_46 : decode cX1_mayBe 46 = .ok (.aload_n 0, 1) := by decide +kernel
theorem dX1_mayBe_47 : decode cX1_mayBe 47 = .ok (.getfield 9, 3) := by decide +kernel
theorem dX1_mayBe_50 : decode cX1_mayBe 50 = .ok (.aload_n 0, 1) := by decide +kernel
theorem dX1_mayBe_51 : decode cX1_mayBe 51 = .ok (.getfield 9, 3) := by decide +kernel
theorem dX1_mayBe_54 : decode cX1_mayBe 54 = .ok (.lmul, 1) := by decide +kernel
theorem dX1_mayBe_55 : decode cX1_mayBe 55 = .ok (.lcmp, 1) := by decide +kernel
theorem dX1_mayBe_56 : decode cX1_mayBe 56 = .ok (.ifCond .gt 7, 3) := by decide +kernel
theorem dX1_mayBe_59 : decode cX1_mayBe 59 = .ok (.iconst 1, 1) := by decide +kernel
theorem dX1_mayBe_60 : decode cX1_mayBe 60 = .ok (.goto 4, 3) := by decide +kernel
theorem dX1_mayBe_63 : decode cX1_mayBe 63 = .ok (.iconst 0, 1) := by decide +kernel
theorem dX1_mayBe_64 : decode cX1_mayBe 64 = .ok (.ireturn, 1) := by decide +kernel
theorem dX1_isWithin_0 : decode cX1_isWithin 0 = .ok (.lload_n 1, 1) := by decide +kernel
theorem dX1_isWithin_1 : decode cX1_isWithin 1 = .ok (.aload_n 0, 1) := by decide +kernel
theorem dX1_isWithin_2 : decode cX1_isWithin 2 = .ok (.getfield 9, 3) := by decide +kernel
theorem dX1_isWithin_5 : decode cX1_isWithin 5 = .ok (.lneg, 1) := by decide +kernel
theorem dX1_isWithin_6 : decode cX1_isWithin 6 = .ok (.lcmp, 1) := by decide +kernel
theorem dX1_isWithin_7 : decode cX1_isWithin 7 = .ok (.ifCond .lt 16, 3) := by decide +kernel
theorem dX1_isWithin_10 : decode cX1_isWithin 10 = .ok (.lload_n 1, 1) := by decide +kernel
theorem dX1_isWithin_11 : decode cX1_isWithin 11 = .ok (.aload_n 0, 1) := by decide +kernel
theorem dX1_isWithin_12 : decode cX1_isWithin 12 = .ok (.getfield 9, 3) := by decide +kernel
theorem dX1_isWithin_15 : decode cX1_isWithin 15 = .ok (.lcmp, 1) := by decide +kernel
theorem dX1_isWithin_16 : decode cX1_isWithin 16 = .ok (.ifCond .gt 7, 3) := by decide +kernel
theorem dX1_isWithin_19 : decode cX1_isWithin 19 = .ok (.iconst 1, 1) := by decide +kernel
theorem dX1_isWithin_20 : decode cX1_isWithin 20 = .ok (.goto 4, 3) := by decide +kernel
theorem dX1_isWithin_23 : decode cX1_isWithin 23 = .ok (.iconst 0, 1) := by decide +kernel
theorem dX1_isWithin_24 : decode cX1_isWithin 24 = .ok (.ireturn, 1) := by decide +kernel
theorem dX1_sumOfSquares_0 : decode cX1_sumOfSquares 0 = .ok (.aload_n 0, 1) := by decide +kernel
theorem dX1_sumOfSquares_1 : decode cX1_sumOfSquares 1 = .ok (.getfield 15, 3) := by decide +kernel
theorem dX1_sumOfSquares_4 : decode cX1_sumOfSquares 4 = .ok (.aload_n 0, 1) := by decide +kernel
theorem dX1_sumOfSquares_5 : decode cX1_sumOfSquares 5 = .ok (.getfield 15, 3) := by decide +kernel
theorem dX1_sumOfSquares_8 : decode cX1_sumOfSquares 8 = .ok (.lmul, 1) := by decide +kernel
theorem dX1_sumOfSquares_9 : decode cX1_sumOfSquares 9 = .ok (.aload_n 0, 1) := by decide +kernel
theorem dX1_sumOfSquares_10 : decode cX1_sumOfSquares 10 = .ok (.getfield 18, 3) := by decide +kernel
theorem dX1_sumOfSquares_13 : decode cX1_sumOfSquares 13 = .ok (.aload_n 0, 1) := by decide +kernel
theorem dX1_sumOfSquares_14 : decode cX1_sumOfSquares 14 = .ok (.getfield 18, 3) := by decide +kernel
theorem dX1_sumOfSquares_17 : decode cX1_sumOfSquares 17 = .ok (.lmul, 1) := by decide +kernel
theorem dX1_sumOfSquares_18 : decode cX1_sumOfSquares 18 = .ok (.ladd, 1) := by decide +kernel
theorem dX1_sumOfSquares_19 : decode cX1_sumOfSquares 19 = .ok (.aload_n 0, 1) := by decide +kernel
theorem dX1_sumOfSquares_20 : decode cX1_sumOfSquares 20 = .ok (.getfield 21, 3) := by decide +kernel
theorem dX1_sumOfSquares_23 : decode cX1_sumOfSquares 23 = .ok (.aload_n 0, 1) := by decide +kernel
theorem dX1_sumOfSquares_24 : decode cX1_sumOfSquares 24 = .ok (.getfield 21, 3) := by decide +kernel
theorem dX1_sumOfSquares_27 : decode cX1_sumOfSquares 27 = .ok (.lmul, 1) := by decide +kernel
theorem dX1_sumOfSquares_28 : decode cX1_sumOfSquares 28 = .ok (.ladd, 1) := by decide +kernel
theorem dX1_sumOfSquares_29 : decode cX1_sumOfSquares 29 = .ok (.lreturn, 1) := by decide +kernel
theorem dX1_compareI_0 : decode cX1_compareI 0 = .ok (.aload_n 0, 1) := by decide +kernel
theorem dX1_compareI_1 : decode cX1_compareI 1 = .ok (.getfield 24, 3) := by decide +kernel
theorem dX1_compareI_4 : decode cX1_compareI 4 = .ok (.aload_n 1, 1) := by decide +kernel
theorem dX1_compareI_5 : decode cX1_compareI 5 = .ok (.getfield 24, 3) := by decide +kernel
theorem dX1_compareI_8 : decode cX1_compareI 8 = .ok (.invokestatic 40, 3) := by decide +kernel
theorem dX1_compareI_11 : decode cX1_compareI 11 = .ok (.istore_n 2, 1) := by decide +kernel
theorem dX1_compareI_12 : decode cX1_compareI 12 = .ok (.aload_n 0, 1) := by decide +kernel
theorem dX1_compareI_13 : decode cX1_compareI 13 = .ok (.getfield 9, 3) := by decide +kernel
theorem dX1_compareI_16 : decode cX1_compareI 16 = .ok (.iload_n 2, 1) := by decide +kernel
theorem dX1_compareI_17 : decode cX1_compareI 17 = .ok (.aload_n 0, 1) := by decide +kernel
theorem dX1_compareI_18 : decode cX1_compareI 18 = .ok (.getfield 24, 3) := by decide +kernel
theorem dX1_compareI_21 : decode cX1_compareI 21 = .ok (.isub, 1) := by decide +kernel
theorem dX1_compareI_22 : decode cX1_compareI 22 = .ok (.lshl, 1) := by decide +kernel
theorem dX1_compareI_23 : decode cX1_compareI 23 = .ok (.aload_n 1, 1) := by decide +kernel
theorem dX1_compareI_24 : decode cX1_compareI 24 = .ok (.getfield 9, 3) := by decide +kernel
theorem dX1_compareI_27 : decode cX1_compareI 27 = .ok (.iload_n 2, 1) := by decide +kernel
theorem dX1_compareI_28 : decode cX1_compareI 28 = .ok (.aload_n 1, 1) := by decide +kernel
theorem dX1_compareI_29 : decode cX1_compareI 29 = .ok (.getfield 24, 3) := by decide +kernel
theorem dX1_compareI_32 : decode cX1_compareI 32 = .ok (.isub, 1) := by decide +kernel
theorem dX1_compareI_33 : decode cX1_compareI 33 = .ok (.lshl, 1) := by decide +kernel
theorem dX1_compareI_34 : decode cX1_compareI 34 = .ok (.invokestatic 46, 3) := by decide +kernel
theorem dX1_compareI_37 : decode cX1_compareI 37 = .ok (.ireturn, 1) := by decide +kernel
theorem dX1_lower_0 : decode cX1_lower 0 = .ok (.aload_n 0, 1) := by decide +kernel
theorem dX1_lower_1 : decode cX1_lower 1 = .ok (.getfield 24, 3) := by decide +kernel
theorem dX1_lower_4 : decode cX1_lower 4 = .ok (.ifCond .le 82, 3) := by decide +kernel
theorem dX1_lower_7 : decode cX1_lower 7 = .ok (.aload_n 0, 1) := by decide +kernel
theorem dX1_lower_8 : decode cX1_lower 8 = .ok (.getfield 9, 3) := by decide +kernel
theorem dX1_lower_11 : decode cX1_lower 11 = .ok (.aload_n 0, 1) := by decide +kernel
theorem dX1_lower_12 : decode cX1_lower 12 = .ok (.getfield 15, 3) := by decide +kernel
theorem dX1_lower_15 : decode cX1_lower 15 = .ok (.lor, 1) := by decide +kernel
theorem dX1_lower_16 : decode cX1_lower 16 = .ok (.aload_n 0, 1) := by decide +kernel
theorem dX1_lower_17 : decode cX1_lower 17 = .ok (.getfield 18, 3) := by decide +kernel
theorem dX1_lower_20 : decode cX1_lower 20 = .ok (.lor, 1) := by decide +kernel
theorem dX1_lower_21 : decode cX1_lower 21 = .ok (.aload_n 0, 1) := by decide +kernel
theorem dX1_lower_22 : decode cX1_lower 22 = .ok (.getfield 21, 3) := by decide +kernel
theorem dX1_lower_25 : decode cX1_lower 25 = .ok (.lor, 1) := by decide +kernel
theorem dX1_lower_26 : decode cX1_lower 26 = .ok (.lconst 1, 1) := by decide +kernel
theorem dX1_lower_27 : decode cX1_lower 27 = .ok (.land, 1) := by decide +kernel
theorem dX1_lower_28 : decode cX1_lower 28 = .ok (.lconst 0, 1) := by decide +kernel
theorem dX1_lower_29 : decode cX1_lower 29 = .ok (.lcmp, 1) := by decide +kernel
theorem dX1_lower_30 : decode cX1_lower 30 = .ok (.ifCond .ne 56, 3) := by decide +kernel
theorem dX1_lower_33 : decode cX1_lower 33 = .ok (.aload_n 0, 1) := by decide +kernel
theorem dX1_lower_34 : decode cX1_lower 34 = .ok (.dup, 1) := by decide +kernel
theorem dX1_lower_35 : decode cX1_lower 35 = .ok (.getfield 9, 3) := by decide +kernel
theorem dX1_lower_38 : decode cX1_lower 38 = .ok (.iconst 1, 1) := by decide +kernel
theorem dX1_lower_39 : decode cX1_lower 39 = .ok (.lshr, 1) := by decide +kernel
theorem dX1_lower_40 : decode cX1_lower 40 = .ok (.putfield 9, 3) := by decide +kernel
theorem dX1_lower_43 : decode cX1_lower 43 = .ok (.aload_n 0, 1) := by decide +kernel
theorem dX1_lower_44 : decode cX1_lower 44 = .ok (.dup, 1) := by decide +kernel
theorem dX1_lower_45 : decode cX1_lower 45 = .ok (.getfield 15, 3) := by decide +kernel
theorem dX1_lower_48 : decode cX1_lower 48 = .ok (.iconst 1, 1) := by decide +kernel
theorem dX1_lower_49 : decode cX1_lower 49 = .ok (.lshr, 1) := by decide +kernel
theorem dX1_lower_50 : decode cX1_lower 50 = .ok (.putfield 15, 3) := by decide +kernel
theorem dX1_lower_53 : decode cX1_lower 53 = .ok (.aload_n 0, 1) := by decide +kernel
theorem dX1_lower_54 : decode cX1_lower 54 = .ok (.dup, 1) := by decide +kernel
theorem dX1_lower_55 : decode cX1_lower 55 = .ok (.getfield 18, 3) := by decide +kernel
theorem dX1_lower_58 : decode cX1_lower 58 = .ok (.iconst 1, 1) := by decide +kernel
theorem dX1_lower_59 : decode cX1_lower 59 = .ok (.lshr, 1) := by decide +kernel
theorem dX1_lower_60 : decode cX1_lower 60 = .ok (.putfield 18, 3) := by decide +kernel
theorem dX1_lower_63 : decode cX1_lower 63 = .ok (.aload_n 0, 1) := by decide +kernel
theorem dX1_lower_64 : decode cX1_lower 64 = .ok (.dup, 1) := by decide +kernel
theorem dX1_lower_65 : decode cX1_lower 65 = .ok (.getfield 21, 3) := by decide +kernel
theorem dX1_lower_68 : decode cX1_lower 68 = .ok (.iconst 1, 1) := by decide +kernel
theorem dX1_lower_69 : decode cX1_lower 69 = .ok (.lshr, 1) := by decide +kernel
theorem dX1_lower_70 : decode cX1_lower 70 = .ok (.putfield 21, 3) := by decide +kernel
theorem dX1_lower_73 : decode cX1_lower 73 = .ok (.aload_n 0, 1) := by decide +kernel
theorem dX1_lower_74 : decode cX1_lower 74 = .ok (.dup, 1) := by decide +kernel
theorem dX1_lower_75 : decode cX1_lower 75 = .ok (.getfield 24, 3) := by decide +kernel
theorem dX1_lower_78 : decode cX1_lower 78 = .ok (.iconst 1, 1) := by decide +kernel
theorem dX1_lower_79 : decode cX1_lower 79 = .ok (.isub, 1) := by decide +kernel
theorem dX1_lower_80 : decode cX1_lower 80 = .ok (.putfield 24, 3) := by decide +kernel
theorem dX1_lower_83 : decode cX1_lower 83 = .ok (.goto (-83), 3) := by decide +kernel
theorem dX1_lower_86 : decode cX1_lower 86 = .ok (.return_, 1) := by decide +kernel
theorem dX1_shrink_0 : decode cX1_shrink 0 = .ok (.aload_n 0, 1) := by decide +kernel
theorem dX1_shrink_1 : decode cX1_shrink 1 = .ok (.getfield 9, 3) := by decide +kernel
theorem dX1_shrink_4 : decode cX1_shrink 4 = .ok (.aload_n 0, 1) := by decide +kernel
theorem dX1_shrink_5 : decode cX1_shrink 5 = .ok (.getfield 15, 3) := by decide +kernel
theorem dX1_shrink_8 : decode cX1_shrink 8 = .ok (.invokestatic 52, 3) := by decide +kernel
theorem dX1_shrink_11 : decode cX1_shrink 11 = .ok (.aload_n 0, 1) := by decide +kernel
theorem dX1_shrink_12 : decode cX1_shrink 12 = .ok (.getfield 18, 3) := by decide +kernel
theorem dX1_shrink_15 : decode cX1_shrink 15 = .ok (.aload_n 0, 1) := by decide +kernel
theorem dX1_shrink_16 : decode cX1_shrink 16 = .ok (.getfield 21, 3) := by decide +kernel
theorem dX1_shrink_19 : decode cX1_shrink 19 = .ok (.invokestatic 52, 3) := by decide +kernel
theorem dX1_shrink_22 : decode cX1_shrink 22 = .ok (.invokestatic 52, 3) := by decide +kernel
theorem dX1_shrink_25 : decode cX1_shrink 25 = .ok (.lstore_n 1, 1) := by decide +kernel
theorem dX1_shrink_26 : decode cX1_shrink 26 = .ok (.lload_n 1, 1) := by decide +kernel
theorem dX1_shrink_27 : decode cX1_shrink 27 = .ok (.lconst 1, 1) := by decide +kernel
theorem dX1_shrink_28 : decode cX1_shrink 28 = .ok (.lcmp, 1) := by decide +kernel
theorem dX1_shrink_29 : decode cX1_shrink 29 = .ok (.ifCond .le 35, 3) := by decide +kernel
theorem dX1_shrink_32 : decode cX1_shrink 32 = .ok (.aload_n 0, 1) := by decide +kernel
theorem dX1_shrink_33 : decode cX1_shrink 33 = .ok (.aload_n 0, 1) := by decide +kernel
theorem dX1_shrink_34 : decode cX1_shrink 34 = .ok (.getfield 9, 3) := by decide +kernel
theorem dX1_shrink_37 : decode cX1_shrink 37 = .ok (.lload_n 1, 1) := by decide +kernel
theorem dX1_shrink_38 : decode cX1_shrink 38 = .ok (.ldiv, 1) := by decide +kernel
theorem dX1_shrink_39 : decode cX1_shrink 39 = .ok (.aload_n 0, 1) := by decide +kernel
theorem dX1_shrink_40 : decode cX1_shrink 40 = .ok (.getfield 15, 3) := by decide +kernel
theorem dX1_shrink_43 : decode cX1_shrink 43 = .ok (.lload_n 1, 1) := by decide +kernel
theorem dX1_shrink_44 : decode cX1_shrink 44 = .ok (.ldiv, 1) := by decide +kernel
theorem dX1_shrink_45 : decode cX1_shrink 45 = .ok (.aload_n 0, 1) := by decide +kernel
theorem dX1_shrink_46 : decode cX1_shrink 46 = .ok (.getfield 18, 3) := by decide +kernel
theorem dX1_shrink_49 : decode cX1_shrink 49 = .ok (.lload_n 1, 1) := by decide +kernel
theorem dX1_shrink_50 : decode cX1_shrink 50 = .ok (.ldiv, 1) := by decide +kernel
theorem dX1_shrink_51 : decode cX1_shrink 51 = .ok (.aload_n 0, 1) := by decide +kernel
theorem dX1_shrink_52 : decode cX1_shrink 52 = .ok (.getfield 21, 3) := by decide +kernel
theorem dX1_shrink_55 : decode cX1_shrink 55 = .ok (.lload_n 1, 1) := by decide +kernel
theorem dX1_shrink_56 : decode cX1_shrink 56 = .ok (.ldiv, 1) := by decide +kernel
theorem dX1_shrink_57 : decode cX1_shrink 57 = .ok (.aload_n 0, 1) := by decide +kernel
theorem dX1_shrink_58 : decode cX1_shrink 58 = .ok (.getfield 24, 3) := by decide +kernel
theorem dX1_shrink_61 : decode cX1_shrink 61 = .ok (.invokevirtual 28, 3) := by decide +kernel
theorem dX1_shrink_64 : decode cX1_shrink 64 = .ok (.return_, 1) := by decide +kernel
theorem dX1_firstOver_0 : decode cX1_firstOver 0 = .ok (.aload_n 0, 1) := by decide +kernel
theorem dX1_firstOver_1 : decode cX1_firstOver 1 = .ok (.getfield 15, 3) := by decide +kernel
theorem dX1_firstOver_4 : decode cX1_firstOver 4 = .ok (.invokestatic 56, 3) := by decide +kernel
theorem dX1_firstOver_7 : decode cX1_firstOver 7 = .ok (.ifCond .eq 5, 3) := by decide +kernel
theorem dX1_firstOver_10 : decode cX1_firstOver 10 = .ok (.iconst 0, 1) := by decide +kernel
theorem dX1_firstOver_11 : decode cX1_firstOver 11 = .ok (.ireturn, 1) := by decide +kernel
theorem dX1_firstOver_12 : decode cX1_firstOver 12 = .ok (.aload_n 0, 1) := by decide +kernel
theorem dX1_firstOver_13 : decode cX1_firstOver 13 = .ok (.getfield 18, 3) := by decide +kernel
theorem dX1_firstOver_16 : decode cX1_firstOver 16 = .ok (.invokestatic 56, 3) := by decide +kernel
theorem dX1_firstOver_19 : decode cX1_firstOver 19 = .ok (.ifCond .eq 5, 3) := by decide +kernel
theorem dX1_firstOver_22 : decode cX1_firstOver 22 = .ok (.iconst 1, 1) := by decide +kernel
theorem dX1_firstOver_23 : decode cX1_firstOver 23 = .ok (.ireturn, 1) := by decide +kernel
theorem dX1_firstOver_24 : decode cX1_firstOver 24 = .ok (.aload_n 0, 1) := by decide +kernel
theorem dX1_firstOver_25 : decode cX1_firstOver 25 = .ok (.getfield 21, 3) := by decide +kernel
theorem dX1_firstOver_28 : decode cX1_firstOver 28 = .ok (.invokestatic 56, 3) := by decide +kernel
theorem dX1_firstOver_31 : decode cX1_firstOver 31 = .ok (.ifCond .eq 5, 3) := by decide +kernel
theorem dX1_firstOver_34 : decode cX1_firstOver 34 = .ok (.iconst 2, 1) := by decide +kernel
theorem dX1_firstOver_35 : decode cX1_firstOver 35 = .ok (.ireturn, 1) := by decide +kernel
theorem dX1_firstOver_36 : decode cX1_firstOver 36 = .ok (.aload_n 0, 1) := by decide +kernel
theorem dX1_firstOver_37 : decode cX1_firstOver 37 = .ok (.getfield 18, 3) := by decide +kernel
theorem dX1_firstOver_40 : decode cX1_firstOver 40 = .ok (.aload_n 0, 1) := by decide +kernel
theorem dX1_firstOver_41 : decode cX1_firstOver 41 = .ok (.getfield 18, 3) := by decide +kernel
theorem dX1_firstOver_44 : decode cX1_firstOver 44 = .ok (.lmul, 1) := by decide +kernel
theorem dX1_firstOver_45 : decode cX1_firstOver 45 = .ok (.ldc2_w 59, 3) := by decide +kernel
theorem dX1_firstOver_48 : decode cX1_firstOver 48 = .ok (.aload_n 0, 1) := by decide +kernel
theorem dX1_firstOver_49 : decode cX1_firstOver 49 = .ok (.getfield 15, 3) := by decide +kernel
theorem dX1_firstOver_52 : decode cX1_firstOver 52 = .ok (.aload_n 0, 1) := by decide +kernel
theorem dX1_firstOver_53 : decode cX1_firstOver 53 = .ok (.getfield 15, 3) := by decide +kernel
theorem dX1_firstOver_56 : decode cX1_firstOver 56 = .ok (.lmul, 1) := by decide +kernel
theorem dX1_firstOver_57 : decode cX1_firstOver 57 = .ok (.lsub, 1) := by decide +kernel
theorem dX1_firstOver_58 : decode cX1_firstOver 58 = .ok (.lcmp, 1) := by decide +kernel
theorem dX1_firstOver_59 : decode cX1_firstOver 59 = .ok (.ifCond .le 5, 3) := by decide +kernel
theorem dX1_firstOver_62 : decode cX1_firstOver 62 = .ok (.iconst 3, 1) := by decide +kernel
theorem dX1_firstOver_63 : decode cX1_firstOver 63 = .ok (.ireturn, 1) := by decide +kernel
theorem dX1_firstOver_64 : decode cX1_firstOver 64 = .ok (.aload_n 0, 1) := by decide +kernel
theorem dX1_firstOver_65 : decode cX1_firstOver 65 = .ok (.getfield 21, 3) := by decide +kernel
theorem dX1_firstOver_68 : decode cX1_firstOver 68 = .ok (.aload_n 0, 1) := by decide +kernel
theorem dX1_firstOver_69 : decode cX1_firstOver 69 = .ok (.getfield 21, 3) := by decide +kernel
theorem dX1_firstOver_72 : decode cX1_firstOver 72 = .ok (.lmul, 1) := by decide +kernel
theorem dX1_firstOver_73 : decode cX1_firstOver 73 = .ok (.ldc2_w 59, 3) := by decide +kernel
theorem dX1_firstOver_76 : decode cX1_firstOver 76 = .ok (.aload_n 0, 1) := by decide +kernel
theorem dX1_firstOver_77 : decode cX1_firstOver 77 = .ok (.getfield 15, 3) := by decide +kernel
theorem dX1_firstOver_80 : decode cX1_firstOver 80 = .ok (.aload_n 0, 1) := by decide +kernel
theorem dX1_firstOver_81 : decode cX1_firstOver 81 = .ok (.getfield 15, 3) := by decide +kernel
theorem dX1_firstOver_84 : decode cX1_firstOver 84 = .ok (.lmul, 1) := by decide +kernel
theorem dX1_firstOver_85 : decode cX1_firstOver 85 = .ok (.lsub, 1) := by decide +kernel
theorem dX1_firstOver_86 : decode cX1_firstOver 86 = .ok (.aload_n 0, 1) := by decide +kernel
theorem dX1_firstOver_87 : decode cX1_firstOver 87 = .ok (.getfield 18, 3) := by decide +kernel
theorem dX1_firstOver_90 : decode cX1_firstOver 90 = .ok (.aload_n 0, 1) := by decide +kernel
theorem dX1_firstOver_91 : decode cX1_firstOver 91 = .ok (.getfield 18, 3) := by decide +kernel
theorem dX1_firstOver_94 : decode cX1_firstOver 94 = .ok (.lmul, 1) := by decide +kernel
theorem dX1_firstOver_95 : decode cX1_firstOver 95 = .ok (.lsub, 1) := by decide +kernel
theorem dX1_firstOver_96 : decode cX1_firstOver 96 = .ok (.lcmp, 1) := by decide +kernel
theorem dX1_firstOver_97 : decode cX1_firstOver 97 = .ok (.ifCond .le 5, 3) := by decide +kernel
theorem dX1_firstOver_100 : decode cX1_firstOver 100 = .ok (.iconst 4, 1) := by decide +kernel
theorem dX1_firstOver_101 : decode cX1_firstOver 101 = .ok (.ireturn, 1) := by decide +kernel
theorem dX1_firstOver_102 : decode cX1_firstOver 102 = .ok (.aload_n 0, 1) := by decide +kernel
theorem dX1_firstOver_103 : decode cX1_firstOver 103 = .ok (.getfield 9, 3) := by decide +kernel
theorem dX1_firstOver_106 : decode cX1_firstOver 106 = .ok (.invokestatic 56, 3) := by decide +kernel
theorem dX1_firstOver_109 : decode cX1_firstOver 109 = .ok (.ifCond .eq 7, 3) := by decide +kernel
theorem dX1_firstOver_112 : decode cX1_firstOver 112 = .ok (.iconst 5, 1) := by decide +kernel
theorem dX1_firstOver_113 : decode cX1_firstOver 113 = .ok (.goto 4, 3) := by decide +kernel
theorem dX1_firstOver_116 : decode cX1_firstOver 116 = .ok (.iconst (-1), 1) := by decide +kernel
theorem dX1_firstOver_117 : decode cX1_firstOver 117 = .ok (.ireturn, 1) := by decide +kernel
theorem dX1_isOver_0 : decode cX1_isOver 0 = .ok (.lload_n 0, 1) := by decide +kernel
theorem dX1_isOver_1 : decode cX1_isOver 1 = .ok (.ldc2_w 61, 3) := by decide +kernel
theorem dX1_isOver_4 : decode cX1_isOver 4 = .ok (.lcmp, 1) := by decide +kernel
theorem dX1_isOver_5 : decode cX1_isOver 5 = .ok (.ifCond .gt 11, 3) := by decide +kernel
theorem dX1_isOver_8 : decode cX1_isOver 8 = .ok (.lload_n 0, 1) := by decide +kernel
theorem dX1_isOver_9 : decode cX1_isOver 9 = .ok (.ldc2_w 63, 3) := by decide +kernel
theorem dX1_isOver_12 : decode cX1_isOver 12 = .ok (.lcmp, 1) := by decide +kernel
theorem dX1_isOver_13 : decode cX1_isOver 13 = .ok (.ifCond .ge 7, 3) := by decide +kernel
theorem dX1_isOver_16 : decode cX1_isOver 16 = .ok (.iconst 1, 1) := by decide +kernel
theorem dX1_isOver_17 : decode cX1_isOver 17 = .ok (.goto 4, 3) := by decide +kernel
theorem dX1_isOver_20 : decode cX1_isOver 20 = .ok (.iconst 0, 1) := by decide +kernel
theorem dX1_isOver_21 : decode cX1_isOver 21 = .ok (.ireturn, 1) := by decide +kernel
theorem dX1_pass_0 : decode cX1_pass 0 = .ok (.iload_n 1, 1) := by decide +kernel
theorem dX1_pass_1 : decode cX1_pass 1 = .ok (.invokestatic 65, 3) := by decide +kernel
theorem dX1_pass_4 : decode cX1_pass 4 = .ok (.tableswitch 126 1 6 #[40, 55, 55, 74, 74, 113], 40) := by decide +kernel
theorem dX1_pass_44 : decode cX1_pass 44 = .ok (.aload_n 0, 1) := by decide +kernel
theorem dX1_pass_45 : decode cX1_pass 45 = .ok (.iload_n 1, 1) := by decide +kernel
theorem dX1_pass_46 : decode cX1_pass 46 = .ok (.invokestatic 69, 3) := by decide +kernel
theorem dX1_pass_49 : decode cX1_pass 49 = .ok (.iload_n 1, 1) := by decide +kernel
theorem dX1_pass_50 : decode cX1_pass 50 = .ok (.invokestatic 69, 3) := by decide +kernel
theorem dX1_pass_53 : decode cX1_pass 53 = .ok (.invokevirtual 72, 3) := by decide +kernel
theorem dX1_pass_56 : decode cX1_pass 56 = .ok (.goto 74, 3) := by decide +kernel
theorem dX1_pass_59 : decode cX1_pass 59 = .ok (.aload_n 0, 1) := by decide +kernel
theorem dX1_pass_60 : decode cX1_pass 60 = .ok (.iload_n 1, 1) := by decide +kernel
theorem dX1_pass_61 : decode cX1_pass 61 = .ok (.invokestatic 76, 3) := by decide +kernel
theorem dX1_pass_64 : decode cX1_pass 64 = .ok (.iload_n 1, 1) := by decide +kernel
theorem dX1_pass_65 : decode cX1_pass 65 = .ok (.invokestatic 79, 3) := by decide +kernel
theorem dX1_pass_68 : decode cX1_pass 68 = .ok (.iload_n 1, 1) := by decide +kernel
theorem dX1_pass_69 : decode cX1_pass 69 = .ok (.invokestatic 82, 3) := by decide +kernel
theorem dX1_pass_72 : decode cX1_pass 72 = .ok (.invokevirtual 85, 3) := by decide +kernel
theorem dX1_pass_75 : decode cX1_pass 75 = .ok (.goto 55, 3) := by decide +kernel
theorem dX1_pass_78 : decode cX1_pass 78 = .ok (.iconst 0, 1) := by decide +kernel
theorem dX1_pass_79 : decode cX1_pass 79 = .ok (.istore_n 2, 1) := by decide +kernel
theorem dX1_pass_80 : decode cX1_pass 80 = .ok (.iload_n 2, 1) := by decide +kernel
theorem dX1_pass_81 : decode cX1_pass 81 = .ok (.iload_n 1, 1) := by decide +kernel
theorem dX1_pass_82 : decode cX1_pass 82 = .ok (.invokestatic 89, 3) := by decide +kernel
theorem dX1_pass_85 : decode cX1_pass 85 = .ok (.if_icmp .ge 29, 3) := by decide +kernel
theorem dX1_pass_88 : decode cX1_pass 88 = .ok (.aload_n 0, 1) := by decide +kernel
theorem dX1_pass_89 : decode cX1_pass 89 = .ok (.iload_n 1, 1) := by decide +kernel
theorem dX1_pass_90 : decode cX1_pass 90 = .ok (.invokestatic 65, 3) := by decide +kernel
theorem dX1_pass_93 : decode cX1_pass 93 = .ok (.iconst 5, 1) := by decide +kernel
theorem dX1_pass_94 : decode cX1_pass 94 = .ok (.if_icmp .ne 7, 3) := by decide +kernel
theorem dX1_pass_97 : decode cX1_pass 97 = .ok (.iconst 4, 1) := by decide +kernel
theorem dX1_pass_98 : decode cX1_pass 98 = .ok (.goto 7, 3) := by decide +kernel
theorem dX1_pass_101 : decode cX1_pass 101 = .ok (.iload_n 1, 1) := by decide +kernel
theorem dX1_pass_102 : decode cX1_pass 102 = .ok (.invokestatic 76, 3) := by decide +kernel
theorem dX1_pass_105 : decode cX1_pass 105 = .ok (.invokevirtual 92, 3) := by decide +kernel
theorem dX1_pass_108 : decode cX1_pass 108 = .ok (.iinc 2 1, 3) := by decide +kernel
theorem dX1_pass_111 : decode cX1_pass 111 = .ok (.goto (-31), 3) := by decide +kernel
theorem dX1_pass_114 : decode cX1_pass 114 = .ok (.goto 16, 3) := by decide +kernel
theorem dX1_pass_117 : decode cX1_pass 117 = .ok (.aload_n 0, 1) := by decide +kernel
theorem dX1_pass_118 : decode cX1_pass 118 = .ok (.bipush 16, 2) := by decide +kernel
theorem dX1_pass_120 : decode cX1_pass 120 = .ok (.iload_n 1, 1) := by decide +kernel
theorem dX1_pass_121 : decode cX1_pass 121 = .ok (.invokestatic 69, 3) := by decide +kernel
theorem dX1_pass_124 : decode cX1_pass 124 = .ok (.invokevirtual 72, 3) := by decide +kernel
theorem dX1_pass_127 : decode cX1_pass 127 = .ok (.goto 3, 3) := by decide +kernel
theorem dX1_pass_130 : decode cX1_pass 130 = .ok (.aload_n 0, 1) := by decide +kernel
theorem dX1_pass_131 : decode cX1_pass 131 = .ok (.invokevirtual 96, 3) := by decide +kernel
theorem dX1_pass_134 : decode cX1_pass 134 = .ok (.return_, 1) := by decide +kernel
theorem dX1_passGrey_0 : decode cX1_passGrey 0 = .ok (.aload_n 0, 1) := by decide +kernel
theorem dX1_passGrey_1 : decode cX1_passGrey 1 = .ok (.iload_n 1, 1) := by decide +kernel
theorem dX1_passGrey_2 : decode cX1_passGrey 2 = .ok (.i2l, 1) := by decide +kernel
theorem dX1_passGrey_3 : decode cX1_passGrey 3 = .ok (.aload_n 0, 1) := by decide +kernel
theorem dX1_passGrey_4 : decode cX1_passGrey 4 = .ok (.getfield 9, 3) := by decide +kernel
theorem dX1_passGrey_7 : decode cX1_passGrey 7 = .ok (.lmul, 1) := by decide +kernel
theorem dX1_passGrey_8 : decode cX1_passGrey 8 = .ok (.iload_n 2, 1) := by decide +kernel
theorem dX1_passGrey_9 : decode cX1_passGrey 9 = .ok (.i2l, 1) := by decide +kernel
theorem dX1_passGrey_10 : decode cX1_passGrey 10 = .ok (.aload_n 0, 1) := by decide +kernel
theorem dX1_passGrey_11 : decode cX1_passGrey 11 = .ok (.getfield 15, 3) := by decide +kernel
theorem dX1_passGrey_14 : decode cX1_passGrey 14 = .ok (.lmul, 1) := by decide +kernel
theorem dX1_passGrey_15 : decode cX1_passGrey 15 = .ok (.iload_n 2, 1) := by decide +kernel
theorem dX1_passGrey_16 : decode cX1_passGrey 16 = .ok (.i2l, 1) := by decide +kernel
theorem dX1_passGrey_17 : decode cX1_passGrey 17 = .ok (.aload_n 0, 1) := by decide +kernel
theorem dX1_passGrey_18 : decode cX1_passGrey 18 = .ok (.getfield 18, 3) := by decide +kernel
theorem dX1_passGrey_21 : decode cX1_passGrey 21 = .ok (.lmul, 1) := by decide +kernel
theorem dX1_passGrey_22 : decode cX1_passGrey 22 = .ok (.iload_n 2, 1) := by decide +kernel
theorem dX1_passGrey_23 : decode cX1_passGrey 23 = .ok (.i2l, 1) := by decide +kernel
theorem dX1_passGrey_24 : decode cX1_passGrey 24 = .ok (.aload_n 0, 1) := by decide +kernel
theorem dX1_passGrey_25 : decode cX1_passGrey 25 = .ok (.getfield 21, 3) := by decide +kernel
theorem dX1_passGrey_28 : decode cX1_passGrey 28 = .ok (.lmul, 1) := by decide +kernel
theorem dX1_passGrey_29 : decode cX1_passGrey 29 = .ok (.aload_n 0, 1) := by decide +kernel
theorem dX1_passGrey_30 : decode cX1_passGrey 30 = .ok (.getfield 24, 3) := by decide +kernel
theorem dX1_passGrey_33 : decode cX1_passGrey 33 = .ok (.iconst 4, 1) := by decide +kernel
theorem dX1_passGrey_34 : decode cX1_passGrey 34 = .ok (.iadd, 1) := by decide +kernel
theorem dX1_passGrey_35 : decode cX1_passGrey 35 = .ok (.invokevirtual 28, 3) := by decide +kernel
theorem dX1_passGrey_38 : decode cX1_passGrey 38 = .ok (.return_, 1) := by decide +kernel
theorem dX1_passSheet_0 : decode cX1_passSheet 0 = .ok (.iload_n 2, 1) := by decide +kernel
theorem dX1_passSheet_1 : decode cX1_passSheet 1 = .ok (.iload_n 2, 1) := by decide +kernel
theorem dX1_passSheet_2 : decode cX1_passSheet 2 = .ok (.imul, 1) := by decide +kernel
theorem dX1_passSheet_3 : decode cX1_passSheet 3 = .ok (.iload_n 3, 1) := by decide +kernel
theorem dX1_passSheet_4 : decode cX1_passSheet 4 = .ok (.iload_n 3, 1) := by decide +kernel
theorem dX1_passSheet_5 : decode cX1_passSheet 5 = .ok (.imul, 1) := by decide +kernel
theorem dX1_passSheet_6 : decode cX1_passSheet 6 = .ok (.iadd, 1) := by decide +kernel
theorem dX1_passSheet_7 : decode cX1_passSheet 7 = .ok (.i2l, 1) := by decide +kernel
theorem dX1_passSheet_8 : decode cX1_passSheet 8 = .ok (.lstore 4, 2) := by decide +kernel
theorem dX1_passSheet_10 : decode cX1_passSheet 10 = .ok (.iload_n 2, 1) := by decide +kernel
theorem dX1_passSheet_11 : decode cX1_passSheet 11 = .ok (.iload_n 2, 1) := by decide +kernel
theorem dX1_passSheet_12 : decode cX1_passSheet 12 = .ok (.imul, 1) := by decide +kernel
theorem dX1_passSheet_13 : decode cX1_passSheet 13 = .ok (.iload_n 3, 1) := by decide +kernel
theorem dX1_passSheet_14 : decode cX1_passSheet 14 = .ok (.iload_n 3, 1) := by decide +kernel
theorem dX1_passSheet_15 : decode cX1_passSheet 15 = .ok (.imul, 1) := by decide +kernel
theorem dX1_passSheet_16 : decode cX1_passSheet 16 = .ok (.isub, 1) := by decide +kernel
theorem dX1_passSheet_17 : decode cX1_passSheet 17 = .ok (.i2l, 1) := by decide +kernel
theorem dX1_passSheet_18 : decode cX1_passSheet 18 = .ok (.lstore 6, 2) := by decide +kernel
theorem dX1_passSheet_20 : decode cX1_passSheet 20 = .ok (.iconst 2, 1) := by decide +kernel
theorem dX1_passSheet_21 : decode cX1_passSheet 21 = .ok (.iload_n 2, 1) := by decide +kernel
theorem dX1_passSheet_22 : decode cX1_passSheet 22 = .ok (.imul, 1) := by decide +kernel
theorem dX1_passSheet_23 : decode cX1_passSheet 23 = .ok (.iload_n 3, 1) := by decide +kernel
theorem dX1_passSheet_24 : decode cX1_passSheet 24 = .ok (.imul, 1) := by decide +kernel
theorem dX1_passSheet_25 : decode cX1_passSheet 25 = .ok (.i2l, 1) := by decide +kernel
theorem dX1_passSheet_26 : decode cX1_passSheet 26 = .ok (.lstore 8, 2) := by decide +kernel
theorem dX1_passSheet_28 : decode cX1_passSheet 28 = .ok (.iload_n 1, 1) := by decide +kernel
theorem dX1_passSheet_29 : decode cX1_passSheet 29 = .ok (.iconst 2, 1) := by decide +kernel
theorem dX1_passSheet_30 : decode cX1_passSheet 30 = .ok (.irem, 1) := by decide +kernel
theorem dX1_passSheet_31 : decode cX1_passSheet 31 = .ok (.ifCond .ne 7, 3) := by decide +kernel
theorem dX1_passSheet_34 : decode cX1_passSheet 34 = .ok (.iconst 1, 1) := by decide +kernel
theorem dX1_passSheet_35 : decode cX1_passSheet 35 = .ok (.goto 4, 3) := by decide +kernel
theorem dX1_passSheet_38 : decode cX1_passSheet 38 = .ok (.iconst 0, 1) := by decide +kernel
theorem dX1_passSheet_39 : decode cX1_passSheet 39 = .ok (.istore 10, 2) := by decide +kernel
theorem dX1_passSheet_41 : decode cX1_passSheet 41 = .ok (.iload_n 1, 1) := by decide +kernel
theorem dX1_passSheet_42 : decode cX1_passSheet 42 = .ok (.iconst 2, 1) := by decide +kernel
theorem dX1_passSheet_43 : decode cX1_passSheet 43 = .ok (.if_icmp .ge 7, 3) := by decide +kernel
theorem dX1_passSheet_46 : decode cX1_passSheet 46 = .ok (.lconst 1, 1) := by decide +kernel
theorem dX1_passSheet_47 : decode cX1_passSheet 47 = .ok (.goto 6, 3) := by decide +kernel
theorem dX1_passSheet_50 : decode cX1_passSheet 50 = .ok (.ldc2_w 99, 3) := by decide +kernel
theorem dX1_passSheet_53 : decode cX1_passSheet 53 = .ok (.lstore 11, 2) := by decide +kernel
theorem dX1_passSheet_55 : decode cX1_passSheet 55 = .ok (.lload 11, 2) := by decide +kernel
theorem dX1_passSheet_57 : decode cX1_passSheet 57 = .ok (.iload 10, 2) := by decide +kernel
theorem dX1_passSheet_59 : decode cX1_passSheet 59 = .ok (.ifCond .eq 10, 3) := by decide +kernel
theorem dX1_passSheet_62 : decode cX1_passSheet 62 = .ok (.aload_n 0, 1) := by decide +kernel
theorem dX1_passSheet_63 : decode cX1_passSheet 63 = .ok (.getfield 15, 3) := by decide +kernel
theorem dX1_passSheet_66 : decode cX1_passSheet 66 = .ok (.goto 7, 3) := by decide +kernel
theorem dX1_passSheet_69 : decode cX1_passSheet 69 = .ok (.aload_n 0, 1) := by decide +kernel
theorem dX1_passSheet_70 : decode cX1_passSheet 70 = .ok (.getfield 18, 3) := by decide +kernel
theorem dX1_passSheet_73 : decode cX1_passSheet 73 = .ok (.lmul, 1) := by decide +kernel
theorem dX1_passSheet_74 : decode cX1_passSheet 74 = .ok (.lstore 13, 2) := by decide +kernel
theorem dX1_passSheet_76 : decode cX1_passSheet 76 = .ok (.lload 11, 2) := by decide +kernel
theorem dX1_passSheet_78 : decode cX1_passSheet 78 = .ok (.lload 6, 2) := by decide +kernel
theorem dX1_passSheet_80 : decode cX1_passSheet 80 = .ok (.aload_n 0, 1) := by decide +kernel
theorem dX1_passSheet_81 : decode cX1_passSheet 81 = .ok (.getfield 9, 3) := by decide +kernel
theorem dX1_passSheet_84 : decode cX1_passSheet 84 = .ok (.lmul, 1) := by decide +kernel
theorem dX1_passSheet_85 : decode cX1_passSheet 85 = .ok (.lload 4, 2) := by decide +kernel
theorem dX1_passSheet_87 : decode cX1_passSheet 87 = .ok (.lload 13, 2) := by decide +kernel
theorem dX1_passSheet_89 : decode cX1_passSheet 89 = .ok (.lmul, 1) := by decide +kernel
theorem dX1_passSheet_90 : decode cX1_passSheet 90 = .ok (.ladd, 1) := by decide +kernel
theorem dX1_passSheet_91 : decode cX1_passSheet 91 = .ok (.lmul, 1) := by decide +kernel
theorem dX1_passSheet_92 : decode cX1_passSheet 92 = .ok (.lstore 15, 2) := by decide +kernel
theorem dX1_passSheet_94 : decode cX1_passSheet 94 = .ok (.aload_n 0, 1) := by decide +kernel
theorem dX1_passSheet_95 : decode cX1_passSheet 95 = .ok (.lload 4, 2) := by decide +kernel
theorem dX1_passSheet_97 : decode cX1_passSheet 97 = .ok (.aload_n 0, 1) := by decide +kernel
theorem dX1_passSheet_98 : decode cX1_passSheet 98 = .ok (.getfield 9, 3) := by decide +kernel
theorem dX1_passSheet_101 : decode cX1_passSheet 101 = .ok (.lmul, 1) := by decide +kernel
theorem dX1_passSheet_102 : decode cX1_passSheet 102 = .ok (.lload 6, 2) := by decide +kernel
theorem dX1_passSheet_104 : decode cX1_passSheet 104 = .ok (.lload 13, 2) := by decide +kernel
theorem dX1_passSheet_106 : decode cX1_passSheet 106 = .ok (.lmul, 1) := by decide +kernel
theorem dX1_passSheet_107 : decode cX1_passSheet 107 = .ok (.ladd, 1) := by decide +kernel
theorem dX1_passSheet_108 : decode cX1_passSheet 108 = .ok (.iload 10, 2) := by decide +kernel
theorem dX1_passSheet_110 : decode cX1_passSheet 110 = .ok (.ifCond .eq 8, 3) := by decide +kernel
theorem dX1_passSheet_113 : decode cX1_passSheet 113 = .ok (.lload 15, 2) := by decide +kernel
theorem dX1_passSheet_115 : decode cX1_passSheet 115 = .ok (.goto 10, 3) := by decide +kernel
theorem dX1_passSheet_118 : decode cX1_passSheet 118 = .ok (.lload 8, 2) := by decide +kernel
theorem dX1_passSheet_120 : decode cX1_passSheet 120 = .ok (.aload_n 0, 1) := by decide +kernel
theorem dX1_passSheet_121 : decode cX1_passSheet 121 = .ok (.getfield 15, 3) := by decide +kernel
theorem dX1_passSheet_124 : decode cX1_passSheet 124 = .ok (.lmul, 1) := by decide +kernel
theorem dX1_passSheet_125 : decode cX1_passSheet 125 = .ok (.iload 10, 2) := by decide +kernel
theorem dX1_passSheet_127 : decode cX1_passSheet 127 = .ok (.ifCond .eq 13, 3) := by decide +kernel
theorem dX1_passSheet_130 : decode cX1_passSheet 130 = .ok (.lload 8, 2) := by decide +kernel
theorem dX1_passSheet_132 : decode cX1_passSheet 132 = .ok (.aload_n 0, 1) := by decide +kernel
theorem dX1_passSheet_133 : decode cX1_passSheet 133 = .ok (.getfield 18, 3) := by decide +kernel
theorem dX1_passSheet_136 : decode cX1_passSheet 136 = .ok (.lmul, 1) := by decide +kernel
theorem dX1_passSheet_137 : decode cX1_passSheet 137 = .ok (.goto 5, 3) := by decide +kernel
theorem dX1_passSheet_140 : decode cX1_passSheet 140 = .ok (.lload 15, 2) := by decide +kernel
theorem dX1_passSheet_142 : decode cX1_passSheet 142 = .ok (.lload 8, 2) := by decide +kernel
theorem dX1_passSheet_144 : decode cX1_passSheet 144 = .ok (.aload_n 0, 1) := by decide +kernel
theorem dX1_passSheet_145 : decode cX1_passSheet 145 = .ok (.getfield 21, 3) := by decide +kernel
theorem dX1_passSheet_148 : decode cX1_passSheet 148 = .ok (.lmul, 1) := by decide +kernel
theorem dX1_passSheet_149 : decode cX1_passSheet 149 = .ok (.aload_n 0, 1) := by decide +kernel
theorem dX1_passSheet_150 : decode cX1_passSheet 150 = .ok (.getfield 24, 3) := by decide +kernel
theorem dX1_passSheet_153 : decode cX1_passSheet 153 = .ok (.iconst 5, 1) := by decide +kernel
theorem dX1_passSheet_154 : decode cX1_passSheet 154 = .ok (.iadd, 1) := by decide +kernel
theorem dX1_passSheet_155 : decode cX1_passSheet 155 = .ok (.invokevirtual 28, 3) := by decide +kernel
theorem dX1_passSheet_158 : decode cX1_passSheet 158 = .ok (.return_, 1) := by decide +kernel
theorem dX1_turnQuarter_0 : decode cX1_turnQuarter 0 = .ok (.iload_n 1, 1) := by decide +kernel
theorem dX1_turnQuarter_1 : decode cX1_turnQuarter 1 = .ok (.tableswitch 143 0 3 #[31, 59, 87, 115], 31) := by decide +kernel
theorem dX1_turnQuarter_32 : decode cX1_turnQuarter 32 = .ok (.aload_n 0, 1) := by decide +kernel
theorem dX1_turnQuarter_33 : decode cX1_turnQuarter 33 = .ok (.aload_n 0, 1) := by decide +kernel
theorem dX1_turnQuarter_34 : decode cX1_turnQuarter 34 = .ok (.getfield 9, 3) := by decide +kernel
theorem dX1_turnQuarter_37 : decode cX1_turnQuarter 37 = .ok (.aload_n 0, 1) := by decide +kernel
theorem dX1_turnQuarter_38 : decode cX1_turnQuarter 38 = .ok (.getfield 15, 3) := by decide +kernel
theorem dX1_turnQuarter_41 : decode cX1_turnQuarter 41 = .ok (.aload_n 0, 1) := by decide +kernel
theorem dX1_turnQuarter_42 : decode cX1_turnQuarter 42 = .ok (.getfield 21, 3) := by decide +kernel
theorem dX1_turnQuarter_45 : decode cX1_turnQuarter 45 = .ok (.aload_n 0, 1) := by decide +kernel
theorem dX1_turnQuarter_46 : decode cX1_turnQuarter 46 = .ok (.getfield 18, 3) := by decide +kernel
theorem dX1_turnQuarter_49 : decode cX1_turnQuarter 49 = .ok (.lneg, 1) := by decide +kernel
theorem dX1_turnQuarter_50 : decode cX1_turnQuarter 50 = .ok (.aload_n 0, 1) := by decide +kernel
theorem dX1_turnQuarter_51 : decode cX1_turnQuarter 51 = .ok (.getfield 24, 3) := by decide +kernel
theorem dX1_turnQuarter_54 : decode cX1_turnQuarter 54 = .ok (.invokevirtual 28, 3) := by decide +kernel
theorem dX1_turnQuarter_57 : decode cX1_turnQuarter 57 = .ok (.goto 112, 3) := by decide +kernel
theorem dX1_turnQuarter_60 : decode cX1_turnQuarter 60 = .ok (.aload_n 0, 1) := by decide +kernel
theorem dX1_turnQuarter_61 : decode cX1_turnQuarter 61 = .ok (.aload_n 0, 1) := by decide +kernel
theorem dX1_turnQuarter_62 : decode cX1_turnQuarter 62 = .ok (.getfield 9, 3) := by decide +kernel
theorem dX1_turnQuarter_65 : decode cX1_turnQuarter 65 = .ok (.aload_n 0, 1) := by decide +kernel
theorem dX1_turnQuarter_66 : decode cX1_turnQuarter 66 = .ok (.getfield 21, 3) := by decide +kernel
theorem dX1_turnQuarter_69 : decode cX1_turnQuarter 69 = .ok (.lneg, 1) := by decide +kernel
theorem dX1_turnQuarter_70 : decode cX1_turnQuarter 70 = .ok (.aload_n 0, 1) := by decide +kernel
theorem dX1_turnQuarter_71 : decode cX1_turnQuarter 71 = .ok (.getfield 18, 3) := by decide +kernel
theorem dX1_turnQuarter_74 : decode cX1_turnQuarter 74 = .ok (.aload_n 0, 1) := by decide +kernel
theorem dX1_turnQuarter_75 : decode cX1_turnQuarter 75 = .ok (.getfield 15, 3) := by decide +kernel
theorem dX1_turnQuarter_78 : decode cX1_turnQuarter 78 = .ok (.aload_n 0, 1) := by decide +kernel
theorem dX1_turnQuarter_79 : decode cX1_turnQuarter 79 = .ok (.getfield 24, 3) := by decide +kernel
theorem dX1_turnQuarter_82 : decode cX1_turnQuarter 82 = .ok (.invokevirtual 28, 3) := by decide +kernel
theorem dX1_turnQuarter_85 : decode cX1_turnQuarter 85 = .ok (.goto 84, 3) := by decide +kernel
theorem dX1_turnQuarter_88 : decode cX1_turnQuarter 88 = .ok (.aload_n 0, 1) := by decide +kernel
theorem dX1_turnQuarter_89 : decode cX1_turnQuarter 89 = .ok (.aload_n 0, 1) := by decide +kernel
theorem dX1_turnQuarter_90 : decode cX1_turnQuarter 90 = .ok (.getfield 9, 3) := by decide +kernel
theorem dX1_turnQuarter_93 : decode cX1_turnQuarter 93 = .ok (.aload_n 0, 1) := by decide +kernel
theorem dX1_turnQuarter_94 : decode cX1_turnQuarter 94 = .ok (.getfield 15, 3) := by decide +kernel
theorem dX1_turnQuarter_97 : decode cX1_turnQuarter 97 = .ok (.aload_n 0, 1) := by decide +kernel
theorem dX1_turnQuarter_98 : decode cX1_turnQuarter 98 = .ok (.getfield 21, 3) := by decide +kernel
theorem dX1_turnQuarter_101 : decode cX1_turnQuarter 101 = .ok (.lneg, 1) := by decide +kernel
theorem dX1_turnQuarter_102 : decode cX1_turnQuarter 102 = .ok (.aload_n 0, 1) := by decide +kernel
theorem dX1_turnQuarter_103 : decode cX1_turnQuarter 103 = .ok (.getfield 18, 3) := by decide +kernel
theorem dX1_turnQuarter_106 : decode cX1_turnQuarter 106 = .ok (.aload_n 0, 1) := by decide +kernel
theorem dX1_turnQuarter_107 : decode cX1_turnQuarter 107 = .ok (.getfield 24, 3) := by decide +kernel
theorem dX1_turnQuarter_110 : decode cX1_turnQuarter 110 = .ok (.invokevirtual 28, 3) := by decide +kernel
theorem dX1_turnQuarter_113 : decode cX1_turnQuarter 113 = .ok (.goto 56, 3) := by decide +kernel
theorem dX1_turnQuarter_116 : decode cX1_turnQuarter 116 = .ok (.aload_n 0, 1) := by decide +kernel
theorem dX1_turnQuarter_117 : decode cX1_turnQuarter 117 = .ok (.aload_n 0, 1) := by decide +kernel
theorem dX1_turnQuarter_118 : decode cX1_turnQuarter 118 = .ok (.getfield 9, 3) := by decide +kernel
theorem dX1_turnQuarter_121 : decode cX1_turnQuarter 121 = .ok (.aload_n 0, 1) := by decide +kernel
theorem dX1_turnQuarter_122 : decode cX1_turnQuarter 122 = .ok (.getfield 21, 3) := by decide +kernel
theorem dX1_turnQuarter_125 : decode cX1_turnQuarter 125 = .ok (.aload_n 0, 1) := by decide +kernel
theorem dX1_turnQuarter_126 : decode cX1_turnQuarter 126 = .ok (.getfield 18, 3) := by decide +kernel
theorem dX1_turnQuarter_129 : decode cX1_turnQuarter 129 = .ok (.aload_n 0, 1) := by decide +kernel
theorem dX1_turnQuarter_130 : decode cX1_turnQuarter 130 = .ok (.getfield 15, 3) := by decide +kernel
theorem dX1_turnQuarter_133 : decode cX1_turnQuarter 133 = .ok (.lneg, 1) := by decide +kernel
theorem dX1_turnQuarter_134 : decode cX1_turnQuarter 134 = .ok (.aload_n 0, 1) := by decide +kernel
theorem dX1_turnQuarter_135 : decode cX1_turnQuarter 135 = .ok (.getfield 24, 3) := by decide +kernel
theorem dX1_turnQuarter_138 : decode cX1_turnQuarter 138 = .ok (.invokevirtual 28, 3) := by decide +kernel
theorem dX1_turnQuarter_141 : decode cX1_turnQuarter 141 = .ok (.goto 28, 3) := by decide +kernel
theorem dX1_turnQuarter_144 : decode cX1_turnQuarter 144 = .ok (.aload_n 0, 1) := by decide +kernel
theorem dX1_turnQuarter_145 : decode cX1_turnQuarter 145 = .ok (.aload_n 0, 1) := by decide +kernel
theorem dX1_turnQuarter_146 : decode cX1_turnQuarter 146 = .ok (.getfield 9, 3) := by decide +kernel
theorem dX1_turnQuarter_149 : decode cX1_turnQuarter 149 = .ok (.aload_n 0, 1) := by decide +kernel
theorem dX1_turnQuarter_150 : decode cX1_turnQuarter 150 = .ok (.getfield 18, 3) := by decide +kernel
theorem dX1_turnQuarter_153 : decode cX1_turnQuarter 153 = .ok (.lneg, 1) := by decide +kernel
theorem dX1_turnQuarter_154 : decode cX1_turnQuarter 154 = .ok (.aload_n 0, 1) := by decide +kernel
theorem dX1_turnQuarter_155 : decode cX1_turnQuarter 155 = .ok (.getfield 15, 3) := by decide +kernel
theorem dX1_turnQuarter_158 : decode cX1_turnQuarter 158 = .ok (.aload_n 0, 1) := by decide +kernel
theorem dX1_turnQuarter_159 : decode cX1_turnQuarter 159 = .ok (.getfield 21, 3) := by decide +kernel
theorem dX1_turnQuarter_162 : decode cX1_turnQuarter 162 = .ok (.aload_n 0, 1) := by decide +kernel
theorem dX1_turnQuarter_163 : decode cX1_turnQuarter 163 = .ok (.getfield 24, 3) := by decide +kernel
theorem dX1_turnQuarter_166 : decode cX1_turnQuarter 166 = .ok (.invokevirtual 28, 3) := by decide +kernel
theorem dX1_turnQuarter_169 : decode cX1_turnQuarter 169 = .ok (.return_, 1) := by decide +kernel
theorem dX2_init_0 : decode cX2_init 0 = .ok (.aload_n 0, 1) := by decide +kernel
theorem dX2_init_1 : decode cX2_init 1 = .ok (.invokespecial 3, 3) := by decide +kernel
theorem dX2_init_4 : decode cX2_init 4 = .ok (.aload_n 0, 1) := by decide +kernel
theorem dX2_init_5 : decode cX2_init 5 = .ok (.bipush 6, 2) := by decide +kernel
theorem dX2_init_7 : decode cX2_init 7 = .ok (.anewarray 9, 3) := by decide +kernel
theorem dX2_init_10 : decode cX2_init 10 = .ok (.putfield 11, 3) := by decide +kernel
theorem dX2_init_13 : decode cX2_init 13 = .ok (.iconst 0, 1) := by decide +kernel
theorem dX2_init_14 : decode cX2_init 14 = .ok (.istore_n 1, 1) := by decide +kernel
theorem dX2_init_15 : decode cX2_init 15 = .ok (.iload_n 1, 1) := by decide +kernel
theorem dX2_init_16 : decode cX2_init 16 = .ok (.iconst 5, 1) := by decide +kernel
theorem dX2_init_17 : decode cX2_init 17 = .ok (.if_icmp .gt 22, 3) := by decide +kernel
theorem dX2_init_20 : decode cX2_init 20 = .ok (.aload_n 0, 1) := by decide +kernel
theorem dX2_init_21 : decode cX2_init 21 = .ok (.getfield 11, 3) := by decide +kernel
theorem dX2_init_24 : decode cX2_init 24 = .ok (.iload_n 1, 1) := by decide +kernel
theorem dX2_init_25 : decode cX2_init 25 = .ok (.new 9, 3) := by decide +kernel
theorem dX2_init_28 : decode cX2_init 28 = .ok (.dup, 1) := by decide +kernel
theorem dX2_init_29 : decode cX2_init 29 = .ok (.invokespecial 17, 3) := by decide +kernel
theorem dX2_init_32 : decode cX2_init 32 = .ok (.aastore, 1) := by decide +kernel
theorem dX2_init_33 : decode cX2_init 33 = .ok (.iinc 1 1, 3) := by decide +kernel
theorem dX2_init_36 : decode cX2_init 36 = .ok (.goto (-21), 3) := by decide +kernel
theorem dX2_init_39 : decode cX2_init 39 = .ok (.return_, 1) := by decide +kernel
theorem dX2_meetAll_0 : decode cX2_meetAll 0 = .ok (.aload_n 2, 1) := by decide +kernel
theorem dX2_meetAll_1 : decode cX2_meetAll 1 = .ok (.invokevirtual 18, 3) := by decide +kernel
theorem dX2_meetAll_4 : decode cX2_meetAll 4 = .ok (.aload_n 0, 1) := by decide +kernel
theorem dX2_meetAll_5 : decode cX2_meetAll 5 = .ok (.getfield 11, 3) := by decide +kernel
theorem dX2_meetAll_8 : decode cX2_meetAll 8 = .ok (.iconst 0, 1) := by decide +kernel
theorem dX2_meetAll_9 : decode cX2_meetAll 9 = .ok (.aaload, 1) := by decide +kernel
theorem dX2_meetAll_10 : decode cX2_meetAll 10 = .ok (.aload_n 1, 1) := by decide +kernel
theorem dX2_meetAll_11 : decode cX2_meetAll 11 = .ok (.getfield 23, 3) := by decide +kernel
theorem dX2_meetAll_14 : decode cX2_meetAll 14 = .ok (.invokevirtual 29, 3) := by decide +kernel
theorem dX2_meetAll_17 : decode cX2_meetAll 17 = .ok (.aload_n 0, 1) := by decide +kernel
theorem dX2_meetAll_18 : decode cX2_meetAll 18 = .ok (.aload_n 1, 1) := by decide +kernel
theorem dX2_meetAll_19 : decode cX2_meetAll 19 = .ok (.aload_n 2, 1) := by decide +kernel
theorem dX2_meetAll_20 : decode cX2_meetAll 20 = .ok (.iconst 0, 1) := by decide +kernel
theorem dX2_meetAll_21 : decode cX2_meetAll 21 = .ok (.iconst 0, 1) := by decide +kernel
theorem dX2_meetAll_22 : decode cX2_meetAll 22 = .ok (.iconst 0, 1) := by decide +kernel
theorem dX2_meetAll_23 : decode cX2_meetAll 23 = .ok (.invokevirtual 33, 3) := by decide +kernel
theorem dX2_meetAll_26 : decode cX2_meetAll 26 = .ok (.return_, 1) := by decide +kernel
theorem dX2_goOn_0 : decode cX2_goOn 0 = .ok (.iload_n 3, 1) := by decide +kernel
theorem dX2_goOn_1 : decode cX2_goOn 1 = .ok (.aload_n 1, 1) := by decide +kernel
theorem dX2_goOn_2 : decode cX2_goOn 2 = .ok (.getfield 37, 3) := by decide +kernel
theorem dX2_goOn_5 : decode cX2_goOn 5 = .ok (.if_icmp .ge 8, 3) := by decide +kernel
theorem dX2_goOn_8 : decode cX2_goOn 8 = .ok (.iload_n 3, 1) := by decide +kernel
theorem dX2_goOn_9 : decode cX2_goOn 9 = .ok (.iconst 5, 1) := by decide +kernel
theorem dX2_goOn_10 : decode cX2_goOn 10 = .ok (.if_icmp .lt 16, 3) := by decide +kernel
theorem dX2_goOn_13 : decode cX2_goOn 13 = .ok (.aload_n 2, 1) := by decide +kernel
theorem dX2_goOn_14 : decode cX2_goOn 14 = .ok (.aload_n 0, 1) := by decide +kernel
theorem dX2_goOn_15 : decode cX2_goOn 15 = .ok (.getfield 11, 3) := by decide +kernel
theorem dX2_goOn_18 : decode cX2_goOn 18 = .ok (.iload_n 3, 1) := by decide +kernel
theorem dX2_goOn_19 : decode cX2_goOn 19 = .ok (.aaload, 1) := by decide +kernel
theorem dX2_goOn_20 : decode cX2_goOn 20 = .ok (.iload 5, 2) := by decide +kernel
theorem dX2_goOn_22 : decode cX2_goOn 22 = .ok (.invokevirtual 41, 3) := by decide +kernel
theorem dX2_goOn_25 : decode cX2_goOn 25 = .ok (.return_, 1) := by decide +kernel
theorem dX2_goOn_26 : decode cX2_goOn 26 = .ok (.iconst 0, 1) := by decide +kernel
theorem dX2_goOn_27 : decode cX2_goOn 27 = .ok (.istore 6, 2) := by decide +kernel
theorem dX2_goOn_29 : decode cX2_goOn 29 = .ok (.iload 6, 2) := by decide +kernel
theorem dX2_goOn_31 : decode cX2_goOn 31 = .ok (.aload_n 1, 1) := by decide +kernel
theorem dX2_goOn_32 : decode cX2_goOn 32 = .ok (.getfield 37, 3) := by decide +kernel
theorem dX2_goOn_35 : decode cX2_goOn 35 = .ok (.if_icmp .ge 80, 3) := by decide +kernel
theorem dX2_goOn_38 : decode cX2_goOn 38 = .ok (.iload 4, 2) := by decide +kernel
theorem dX2_goOn_40 : decode cX2_goOn 40 = .ok (.iconst 1, 1) := by decide +kernel
theorem dX2_goOn_41 : decode cX2_goOn 41 = .ok (.iload 6, 2) := by decide +kernel
theorem dX2_goOn_43 : decode cX2_goOn 43 = .ok (.ishl, 1) := by decide +kernel
theorem dX2_goOn_44 : decode cX2_goOn 44 = .ok (.iand, 1) := by decide +kernel
theorem dX2_goOn_45 : decode cX2_goOn 45 = .ok (.ifCond .ne 64, 3) := by decide +kernel
theorem dX2_goOn_48 : decode cX2_goOn 48 = .ok (.aload_n 0, 1) := by decide +kernel
theorem dX2_goOn_49 : decode cX2_goOn 49 = .ok (.getfield 11, 3) := by decide +kernel
theorem dX2_goOn_52 : decode cX2_goOn 52 = .ok (.iload_n 3, 1) := by decide +kernel
theorem dX2_goOn_53 : decode cX2_goOn 53 = .ok (.iconst 1, 1) := by decide +kernel
theorem dX2_goOn_54 : decode cX2_goOn 54 = .ok (.iadd, 1) := by decide +kernel
theorem dX2_goOn_55 : decode cX2_goOn 55 = .ok (.aaload, 1) := by decide +kernel
theorem dX2_goOn_56 : decode cX2_goOn 56 = .ok (.aload_n 0, 1) := by decide +kernel
theorem dX2_goOn_57 : decode cX2_goOn 57 = .ok (.getfield 11, 3) := by decide +kernel
theorem dX2_goOn_60 : decode cX2_goOn 60 = .ok (.iload_n 3, 1) := by decide +kernel
theorem dX2_goOn_61 : decode cX2_goOn 61 = .ok (.aaload, 1) := by decide +kernel
theorem dX2_goOn_62 : decode cX2_goOn 62 = .ok (.invokevirtual 29, 3) := by decide +kernel
theorem dX2_goOn_65 : decode cX2_goOn 65 = .ok (.aload_n 0, 1) := by decide +kernel
theorem dX2_goOn_66 : decode cX2_goOn 66 = .ok (.getfield 11, 3) := by decide +kernel
theorem dX2_goOn_69 : decode cX2_goOn 69 = .ok (.iload_n 3, 1) := by decide +kernel
theorem dX2_goOn_70 : decode cX2_goOn 70 = .ok (.iconst 1, 1) := by decide +kernel
theorem dX2_goOn_71 : decode cX2_goOn 71 = .ok (.iadd, 1) := by decide +kernel
theorem dX2_goOn_72 : decode cX2_goOn 72 = .ok (.aaload, 1) := by decide +kernel
theorem dX2_goOn_73 : decode cX2_goOn 73 = .ok (.aload_n 1, 1) := by decide +kernel
theorem dX2_goOn_74 : decode cX2_goOn 74 = .ok (.getfield 45, 3) := by decide +kernel
theorem dX2_goOn_77 : decode cX2_goOn 77 = .ok (.iload 6, 2) := by decide +kernel
theorem dX2_goOn_79 : decode cX2_goOn 79 = .ok (.iaload, 1) := by decide +kernel
theorem dX2_goOn_80 : decode cX2_goOn 80 = .ok (.invokevirtual 49, 3) := by decide +kernel
theorem dX2_goOn_83 : decode cX2_goOn 83 = .ok (.aload_n 0, 1) := by decide +kernel
theorem dX2_goOn_84 : decode cX2_goOn 84 = .ok (.aload_n 1, 1) := by decide +kernel
theorem dX2_goOn_85 : decode cX2_goOn 85 = .ok (.aload_n 2, 1) := by decide +kernel
theorem dX2_goOn_86 : decode cX2_goOn 86 = .ok (.iload_n 3, 1) := by decide +kernel
theorem dX2_goOn_87 : decode cX2_goOn 87 = .ok (.iconst 1, 1) := by decide +kernel
theorem dX2_goOn_88 : decode cX2_goOn 88 = .ok (.iadd, 1) := by decide +kernel
theorem dX2_goOn_89 : decode cX2_goOn 89 = .ok (.iload 4, 2) := by decide +kernel
theorem dX2_goOn_91 : decode cX2_goOn 91 = .ok (.iconst 1, 1) := by decide +kernel
theorem dX2_goOn_92 : decode cX2_goOn 92 = .ok (.iload 6, 2) := by decide +kernel
theorem dX2_goOn_94 : decode cX2_goOn 94 = .ok (.ishl, 1) := by decide +kernel
theorem dX2_goOn_95 : decode cX2_goOn 95 = .ok (.ior, 1) := by decide +kernel
theorem dX2_goOn_96 : decode cX2_goOn 96 = .ok (.bipush 10, 2) := by decide +kernel
theorem dX2_goOn_98 : decode cX2_goOn 98 = .ok (.iload 5, 2) := by decide +kernel
theorem dX2_goOn_100 : decode cX2_goOn 100 = .ok (.imul, 1) := by decide +kernel
theorem dX2_goOn_101 : decode cX2_goOn 101 = .ok (.iload 6, 2) := by decide +kernel
theorem dX2_goOn_103 : decode cX2_goOn 103 = .ok (.iadd, 1) := by decide +kernel
theorem dX2_goOn_104 : decode cX2_goOn 104 = .ok (.iconst 1, 1) := by decide +kernel
theorem dX2_goOn_105 : decode cX2_goOn 105 = .ok (.iadd, 1) := by decide +kernel
theorem dX2_goOn_106 : decode cX2_goOn 106 = .ok (.invokevirtual 33, 3) := by decide +kernel
theorem dX2_goOn_109 : decode cX2_goOn 109 = .ok (.iinc 6 1, 3) := by decide +kernel
theorem dX2_goOn_112 : decode cX2_goOn 112 = .ok (.goto (-83), 3) := by decide +kernel
theorem dX2_goOn_115 : decode cX2_goOn 115 = .ok (.return_, 1) := by decide +kernel
theorem dX3_init_0 : decode cX3_init 0 = .ok (.aload_n 0, 1) := by decide +kernel
theorem dX3_init_1 : decode cX3_init 1 = .ok (.invokespecial 3, 3) := by decide +kernel
theorem dX3_init_4 : decode cX3_init 4 = .ok (.aload_n 0, 1) := by decide +kernel
theorem dX3_init_5 : decode cX3_init 5 = .ok (.new 9, 3) := by decide +kernel
theorem dX3_init_8 : decode cX3_init 8 = .ok (.dup, 1) := by decide +kernel
theorem dX3_init_9 : decode cX3_init 9 = .ok (.invokespecial 11, 3) := by decide +kernel
theorem dX3_init_12 : decode cX3_init 12 = .ok (.putfield 12, 3) := by decide +kernel
theorem dX3_init_15 : decode cX3_init 15 = .ok (.aload_n 0, 1) := by decide +kernel
theorem dX3_init_16 : decode cX3_init 16 = .ok (.new 9, 3) := by decide +kernel
theorem dX3_init_19 : decode cX3_init 19 = .ok (.dup, 1) := by decide +kernel
theorem dX3_init_20 : decode cX3_init 20 = .ok (.invokespecial 11, 3) := by decide +kernel
theorem dX3_init_23 : decode cX3_init 23 = .ok (.putfield 18, 3) := by decide +kernel
theorem dX3_init_26 : decode cX3_init 26 = .ok (.aload_n 0, 1) := by decide +kernel
theorem dX3_init_27 : decode cX3_init 27 = .ok (.sipush 600, 3) := by decide +kernel
theorem dX3_init_30 : decode cX3_init 30 = .ok (.newarray .long, 2) := by decide +kernel
theorem dX3_init_32 : decode cX3_init 32 = .ok (.putfield 21, 3) := by decide +kernel
theorem dX3_init_35 : decode cX3_init 35 = .ok (.aload_n 0, 1) := by decide +kernel
theorem dX3_init_36 : decode cX3_init 36 = .ok (.bipush 120, 2) := by decide +kernel
theorem dX3_init_38 : decode cX3_init 38 = .ok (.newarray .int, 2) := by decide +kernel
theorem dX3_init_40 : decode cX3_init 40 = .ok (.putfield 25, 3) := by decide +kernel
theorem dX3_init_43 : decode cX3_init 43 = .ok (.return_, 1) := by decide +kernel
theorem dX3_forget_0 : decode cX3_forget 0 = .ok (.aload_n 0, 1) := by decide +kernel
theorem dX3_forget_1 : decode cX3_forget 1 = .ok (.iconst 0, 1) := by decide +kernel
theorem dX3_forget_2 : decode cX3_forget 2 = .ok (.putfield 29, 3) := by decide +kernel
theorem dX3_forget_5 : decode cX3_forget 5 = .ok (.return_, 1) := by decide +kernel
theorem dX3_meet_0 : decode cX3_meet 0 = .ok (.aload_n 0, 1) := by decide +kernel
theorem dX3_meet_1 : decode cX3_meet 1 = .ok (.getfield 29, 3) := by decide +kernel
theorem dX3_meet_4 : decode cX3_meet 4 = .ok (.ifCond .ne 7, 3) := by decide +kernel
theorem dX3_meet_7 : decode cX3_meet 7 = .ok (.iconst 1, 1) := by decide +kernel
theorem dX3_meet_8 : decode cX3_meet 8 = .ok (.goto 4, 3) := by decide +kernel
theorem dX3_meet_11 : decode cX3_meet 11 = .ok (.iconst 0, 1) := by decide +kernel
theorem dX3_meet_12 : decode cX3_meet 12 = .ok (.istore_n 3, 1) := by decide +kernel
theorem dX3_meet_13 : decode cX3_meet 13 = .ok (.iload_n 3, 1) := by decide +kernel
theorem dX3_meet_14 : decode cX3_meet 14 = .ok (.ifCond .ne 14, 3) := by decide +kernel
theorem dX3_meet_17 : decode cX3_meet 17 = .ok (.aload_n 1, 1) := by decide +kernel
theorem dX3_meet_18 : decode cX3_meet 18 = .ok (.aload_n 0, 1) := by decide +kernel
theorem dX3_meet_19 : decode cX3_meet 19 = .ok (.getfield 12, 3) := by decide +kernel
theorem dX3_meet_22 : decode cX3_meet 22 = .ok (.invokevirtual 33, 3) := by decide +kernel
theorem dX3_meet_25 : decode cX3_meet 25 = .ok (.ifCond .ge 16, 3) := by decide +kernel
theorem dX3_meet_28 : decode cX3_meet 28 = .ok (.aload_n 0, 1) := by decide +kernel
theorem dX3_meet_29 : decode cX3_meet 29 = .ok (.getfield 12, 3) := by decide +kernel
theorem dX3_meet_32 : decode cX3_meet 32 = .ok (.aload_n 1, 1) := by decide +kernel
theorem dX3_meet_33 : decode cX3_meet 33 = .ok (.invokevirtual 37, 3) := by decide +kernel
theorem dX3_meet_36 : decode cX3_meet 36 = .ok (.aload_n 0, 1) := by decide +kernel
theorem dX3_meet_37 : decode cX3_meet 37 = .ok (.iload_n 2, 1) := by decide +kernel
theorem dX3_meet_38 : decode cX3_meet 38 = .ok (.putfield 41, 3) := by decide +kernel
theorem dX3_meet_41 : decode cX3_meet 41 = .ok (.iload_n 3, 1) := by decide +kernel
theorem dX3_meet_42 : decode cX3_meet 42 = .ok (.ifCond .ne 14, 3) := by decide +kernel
theorem dX3_meet_45 : decode cX3_meet 45 = .ok (.aload_n 1, 1) := by decide +kernel
theorem dX3_meet_46 : decode cX3_meet 46 = .ok (.aload_n 0, 1) := by decide +kernel
theorem dX3_meet_47 : decode cX3_meet 47 = .ok (.getfield 18, 3) := by decide +kernel
theorem dX3_meet_50 : decode cX3_meet 50 = .ok (.invokevirtual 33, 3) := by decide +kernel
theorem dX3_meet_53 : decode cX3_meet 53 = .ok (.ifCond .le 16, 3) := by decide +kernel
theorem dX3_meet_56 : decode cX3_meet 56 = .ok (.aload_n 0, 1) := by decide +kernel
theorem dX3_meet_57 : decode cX3_meet 57 = .ok (.getfield 18, 3) := by decide +kernel
theorem dX3_meet_60 : decode cX3_meet 60 = .ok (.aload_n 1, 1) := by decide +kernel
theorem dX3_meet_61 : decode cX3_meet 61 = .ok (.invokevirtual 37, 3) := by decide +kernel
theorem dX3_meet_64 : decode cX3_meet 64 = .ok (.aload_n 0, 1) := by decide +kernel
theorem dX3_meet_65 : decode cX3_meet 65 = .ok (.iload_n 2, 1) := by decide +kernel
theorem dX3_meet_66 : decode cX3_meet 66 = .ok (.putfield 44, 3) := by decide +kernel
theorem dX3_meet_69 : decode cX3_meet 69 = .ok (.aload_n 0, 1) := by decide +kernel
theorem dX3_meet_70 : decode cX3_meet 70 = .ok (.aload_n 1, 1) := by decide +kernel
theorem dX3_meet_71 : decode cX3_meet 71 = .ok (.invokevirtual 47, 3) := by decide +kernel
theorem dX3_meet_74 : decode cX3_meet 74 = .ok (.return_, 1) := by decide +kernel
theorem dX3_remember_0 : decode cX3_remember 0 = .ok (.iconst 0, 1) := by decide +kernel
theorem dX3_remember_1 : decode cX3_remember 1 = .ok (.istore_n 2, 1) := by decide +kernel
theorem dX3_remember_2 : decode cX3_remember 2 = .ok (.iload_n 2, 1) := by decide +kernel
theorem dX3_remember_3 : decode cX3_remember 3 = .ok (.aload_n 0, 1) := by decide +kernel
theorem dX3_remember_4 : decode cX3_remember 4 = .ok (.getfield 29, 3) := by decide +kernel
theorem dX3_remember_7 : decode cX3_remember 7 = .ok (.if_icmp .ge 29, 3) := by decide +kernel
theorem dX3_remember_10 : decode cX3_remember 10 = .ok (.aload_n 0, 1) := by decide +kernel
theorem dX3_remember_11 : decode cX3_remember 11 = .ok (.iload_n 2, 1) := by decide +kernel
theorem dX3_remember_12 : decode cX3_remember 12 = .ok (.aload_n 1, 1) := by decide +kernel
theorem dX3_remember_13 : decode cX3_remember 13 = .ok (.invokevirtual 50, 3) := by decide +kernel
theorem dX3_remember_16 : decode cX3_remember 16 = .ok (.ifCond .eq 14, 3) := by decide +kernel
theorem dX3_remember_19 : decode cX3_remember 19 = .ok (.aload_n 0, 1) := by decide +kernel
theorem dX3_remember_20 : decode cX3_remember 20 = .ok (.getfield 25, 3) := by decide +kernel
theorem dX3_remember_23 : decode cX3_remember 23 = .ok (.iload_n 2, 1) := by decide +kernel
theorem dX3_remember_24 : decode cX3_remember 24 = .ok (.dup2, 1) := by decide +kernel
theorem dX3_remember_25 : decode cX3_remember 25 = .ok (.iaload, 1) := by decide +kernel
theorem dX3_remember_26 : decode cX3_remember 26 = .ok (.iconst 1, 1) := by decide +kernel
theorem dX3_remember_27 : decode cX3_remember 27 = .ok (.iadd, 1) := by decide +kernel
theorem dX3_remember_28 : decode cX3_remember 28 = .ok (.iastore, 1) := by decide +kernel
theorem dX3_remember_29 : decode cX3_remember 29 = .ok (.return_, 1) := by decide +kernel
theorem dX3_remember_30 : decode cX3_remember 30 = .ok (.iinc 2 1, 3) := by decide +kernel
theorem dX3_remember_33 : decode cX3_remember 33 = .ok (.goto (-31), 3) := by decide +kernel
theorem dX3_remember_36 : decode cX3_remember 36 = .ok (.aload_n 0, 1) := by decide +kernel
theorem dX3_remember_37 : decode cX3_remember 37 = .ok (.getfield 29, 3) := by decide +kernel
theorem dX3_remember_40 : decode cX3_remember 40 = .ok (.bipush 120, 2) := by decide +kernel
theorem dX3_remember_42 : decode cX3_remember 42 = .ok (.if_icmp .lt 4, 3) := by decide +kernel
theorem dX3_remember_45 : decode cX3_remember 45 = .ok (.return_, 1) := by decide +kernel
theorem dX3_remember_46 : decode cX3_remember 46 = .ok (.iconst 0, 1) := by decide +kernel
theorem dX3_remember_47 : decode cX3_remember 47 = .ok (.istore_n 2, 1) := by decide +kernel
theorem dX3_remember_48 : decode cX3_remember 48 = .ok (.iload_n 2, 1) := by decide +kernel
theorem dX3_remember_49 : decode cX3_remember 49 = .ok (.iconst 5, 1) := by decide +kernel
theorem dX3_remember_50 : decode cX3_remember 50 = .ok (.if_icmp .ge 27, 3) := by decide +kernel
theorem dX3_remember_53 : decode cX3_remember 53 = .ok (.aload_n 0, 1) := by decide +kernel
theorem dX3_remember_54 : decode cX3_remember 54 = .ok (.getfield 21, 3) := by decide +kernel
theorem dX3_remember_57 : decode cX3_remember 57 = .ok (.aload_n 0, 1) := by decide +kernel
theorem dX3_remember_58 : decode cX3_remember 58 = .ok (.getfield 29, 3) := by decide +kernel
theorem dX3_remember_61 : decode cX3_remember 61 = .ok (.iconst 5, 1) := by decide +kernel
theorem dX3_remember_62 : decode cX3_remember 62 = .ok (.imul, 1) := by decide +kernel
theorem dX3_remember_63 : decode cX3_remember 63 = .ok (.iload_n 2, 1) := by decide +kernel
theorem dX3_remember_64 : decode cX3_remember 64 = .ok (.iadd, 1) := by decide +kernel
theorem dX3_remember_65 : decode cX3_remember 65 = .ok (.aload_n 1, 1) := by decide +kernel
theorem dX3_remember_66 : decode cX3_remember 66 = .ok (.iload_n 2, 1) := by decide +kernel
theorem dX3_remember_67 : decode cX3_remember 67 = .ok (.invokevirtual 54, 3) := by decide +kernel
theorem dX3_remember_70 : decode cX3_remember 70 = .ok (.lastore, 1) := by decide +kernel
theorem dX3_remember_71 : decode cX3_remember 71 = .ok (.iinc 2 1, 3) := by decide +kernel
theorem dX3_remember_74 : decode cX3_remember 74 = .ok (.goto (-26), 3) := by decide +kernel
theorem dX3_remember_77 : decode cX3_remember 77 = .ok (.aload_n 0, 1) := by decide +kernel
theorem dX3_remember_78 : decode cX3_remember 78 = .ok (.getfield 25, 3) := by decide +kernel
theorem dX3_remember_81 : decode cX3_remember 81 = .ok (.aload_n 0, 1) := by decide +kernel
theorem dX3_remember_82 : decode cX3_remember 82 = .ok (.getfield 29, 3) := by decide +kernel
theorem dX3_remember_85 : decode cX3_remember 85 = .ok (.iconst 1, 1) := by decide +kernel
theorem dX3_remember_86 : decode cX3_remember 86 = .ok (.iastore, 1) := by decide +kernel
theorem dX3_remember_87 : decode cX3_remember 87 = .ok (.aload_n 0, 1) := by decide +kernel
theorem dX3_remember_88 : decode cX3_remember 88 = .ok (.dup, 1) := by decide +kernel
theorem dX3_remember_89 : decode cX3_remember 89 = .ok (.getfield 29, 3) := by decide +kernel
theorem dX3_remember_92 : decode cX3_remember 92 = .ok (.iconst 1, 1) := by decide +kernel
theorem dX3_remember_93 : decode cX3_remember 93 = .ok (.iadd, 1) := by decide +kernel
theorem dX3_remember_94 : decode cX3_remember 94 = .ok (.putfield 29, 3) := by decide +kernel
theorem dX3_remember_97 : decode cX3_remember 97 = .ok (.return_, 1) := by decide +kernel
theorem dX3_isSeen_0 : decode cX3_isSeen 0 = .ok (.iconst 0, 1) := by decide +kernel
theorem dX3_isSeen_1 : decode cX3_isSeen 1 = .ok (.istore_n 3, 1) := by decide +kernel
theorem dX3_isSeen_2 : decode cX3_isSeen 2 = .ok (.iload_n 3, 1) := by decide +kernel
theorem dX3_isSeen_3 : decode cX3_isSeen 3 = .ok (.iconst 5, 1) := by decide +kernel
theorem dX3_isSeen_4 : decode cX3_isSeen 4 = .ok (.if_icmp .ge 30, 3) := by decide +kernel
theorem dX3_isSeen_7 : decode cX3_isSeen 7 = .ok (.aload_n 0, 1) := by decide +kernel
theorem dX3_isSeen_8 : decode cX3_isSeen 8 = .ok (.getfield 21, 3) := by decide +kernel
theorem dX3_isSeen_11 : decode cX3_isSeen 11 = .ok (.iload_n 1, 1) := by decide +kernel
theorem dX3_isSeen_12 : decode cX3_isSeen 12 = .ok (.iconst 5, 1) := by decide +kernel
theorem dX3_isSeen_13 : decode cX3_isSeen 13 = .ok (.imul, 1) := by decide +kernel
theorem dX3_isSeen_14 : decode cX3_isSeen 14 = .ok (.iload_n 3, 1) := by decide +kernel
theorem dX3_isSeen_15 : decode cX3_isSeen 15 = .ok (.iadd, 1) := by decide +kernel
theorem dX3_isSeen_16 : decode cX3_isSeen 16 = .ok (.laload, 1) := by decide +kernel
theorem dX3_isSeen_17 : decode cX3_isSeen 17 = .ok (.aload_n 2, 1) := by decide +kernel
theorem dX3_isSeen_18 : decode cX3_isSeen 18 = .ok (.iload_n 3, 1) := by decide +kernel
theorem dX3_isSeen_19 : decode cX3_isSeen 19 = .ok (.invokevirtual 54, 3) := by decide +kernel
theorem dX3_isSeen_22 : decode cX3_isSeen 22 = .ok (.lcmp, 1) := by decide +kernel
theorem dX3_isSeen_23 : decode cX3_isSeen 23 = .ok (.ifCond .eq 5, 3) := by decide +kernel
theorem dX3_isSeen_26 : decode cX3_isSeen 26 = .ok (.iconst 0, 1) := by decide +kernel
theorem dX3_isSeen_27 : decode cX3_isSeen 27 = .ok (.ireturn, 1) := by decide +kernel
theorem dX3_isSeen_28 : decode cX3_isSeen 28 = .ok (.iinc 3 1, 3) := by decide +kernel
theorem dX3_isSeen_31 : decode cX3_isSeen 31 = .ok (.goto (-29), 3) := by decide +kernel
theorem dX3_isSeen_34 : decode cX3_isSeen 34 = .ok (.iconst 1, 1) := by decide +kernel
theorem dX3_isSeen_35 : decode cX3_isSeen 35 = .ok (.ireturn, 1) := by decide +kernel
theorem dX3_common_0 : decode cX3_common 0 = .ok (.iconst 0, 1) := by decide +kernel
theorem dX3_common_1 : decode cX3_common 1 = .ok (.istore_n 1, 1) := by decide +kernel
theorem dX3_common_2 : decode cX3_common 2 = .ok (.iconst 0, 1) := by decide +kernel
theorem dX3_common_3 : decode cX3_common 3 = .ok (.istore_n 2, 1) := by decide +kernel
theorem dX3_common_4 : decode cX3_common 4 = .ok (.iload_n 2, 1) := by decide +kernel
theorem dX3_common_5 : decode cX3_common 5 = .ok (.aload_n 0, 1) := by decide +kernel
theorem dX3_common_6 : decode cX3_common 6 = .ok (.getfield 29, 3) := by decide +kernel
theorem dX3_common_9 : decode cX3_common 9 = .ok (.if_icmp .ge 20, 3) := by decide +kernel
theorem dX3_common_12 : decode cX3_common 12 = .ok (.iload_n 1, 1) := by decide +kernel
theorem dX3_common_13 : decode cX3_common 13 = .ok (.aload_n 0, 1) := by decide +kernel
theorem dX3_common_14 : decode cX3_common 14 = .ok (.getfield 25, 3) := by decide +kernel
theorem dX3_common_17 : decode cX3_common 17 = .ok (.iload_n 2, 1) := by decide +kernel
theorem dX3_common_18 : decode cX3_common 18 = .ok (.iaload, 1) := by decide +kernel
theorem dX3_common_19 : decode cX3_common 19 = .ok (.invokestatic 58, 3) := by decide +kernel
theorem dX3_common_22 : decode cX3_common 22 = .ok (.istore_n 1, 1) := by decide +kernel
theorem dX3_common_23 : decode cX3_common 23 = .ok (.iinc 2 1, 3) := by decide +kernel
theorem dX3_common_26 : decode cX3_common 26 = .ok (.goto (-22), 3) := by decide +kernel
theorem dX3_common_29 : decode cX3_common 29 = .ok (.iload_n 1, 1) := by decide +kernel
theorem dX3_common_30 : decode cX3_common 30 = .ok (.ireturn, 1) := by decide +kernel
theorem dX4_init_0 : decode cX4_init 0 = .ok (.aload_n 0, 1) := by decide +kernel
theorem dX4_init_1 : decode cX4_init 1 = .ok (.invokespecial 3, 3) := by decide +kernel
theorem dX4_init_4 : decode cX4_init 4 = .ok (.aload_n 0, 1) := by decide +kernel
theorem dX4_init_5 : decode cX4_init 5 = .ok (.bipush 60, 2) := by decide +kernel
theorem dX4_init_7 : decode cX4_init 7 = .ok (.newarray .int, 2) := by decide +kernel
theorem dX4_init_9 : decode cX4_init 9 = .ok (.putfield 9, 3) := by decide +kernel
theorem dX4_init_12 : decode cX4_init 12 = .ok (.aload_n 0, 1) := by decide +kernel
theorem dX4_init_13 : decode cX4_init 13 = .ok (.iconst 3, 1) := by decide +kernel
theorem dX4_init_14 : decode cX4_init 14 = .ok (.newarray .int, 2) := by decide +kernel
theorem dX4_init_16 : decode cX4_init 16 = .ok (.putfield 15, 3) := by decide +kernel
theorem dX4_init_19 : decode cX4_init 19 = .ok (.aload_n 0, 1) := by decide +kernel
theorem dX4_init_20 : decode cX4_init 20 = .ok (.bipush 8, 2) := by decide +kernel
theorem dX4_init_22 : decode cX4_init 22 = .ok (.newarray .int, 2) := by decide +kernel
theorem dX4_init_24 : decode cX4_init 24 = .ok (.putfield 18, 3) := by decide +kernel
theorem dX4_init_27 : decode cX4_init 27 = .ok (.return_, 1) := by decide +kernel
theorem dX4_readsText_0 : decode cX4_readsText 0 = .ok (.aload_n 0, 1) := by decide +kernel
theorem dX4_readsText_1 : decode cX4_readsText 1 = .ok (.iconst 0, 1) := by decide +kernel
theorem dX4_readsText_2 : decode cX4_readsText 2 = .ok (.putfield 21, 3) := by decide +kernel
theorem dX4_readsText_5 : decode cX4_readsText 5 = .ok (.aload_n 0, 1) := by decide +kernel
theorem dX4_readsText_6 : decode cX4_readsText 6 = .ok (.iconst 0, 1) := by decide +kernel
theorem dX4_readsText_7 : decode cX4_readsText 7 = .ok (.putfield 25, 3) := by decide +kernel
theorem dX4_readsText_10 : decode cX4_readsText 10 = .ok (.aload_n 0, 1) := by decide +kernel
theorem dX4_readsText_11 : decode cX4_readsText 11 = .ok (.iconst 0, 1) := by decide +kernel
theorem dX4_readsText_12 : decode cX4_readsText 12 = .ok (.putfield 28, 3) := by decide +kernel
theorem dX4_readsText_15 : decode cX4_readsText 15 = .ok (.aload_n 0, 1) := by decide +kernel
theorem dX4_readsText_16 : decode cX4_readsText 16 = .ok (.invokevirtual 31, 3) := by decide +kernel
theorem dX4_readsText_19 : decode cX4_readsText 19 = .ok (.ifCond .eq 18, 3) := by decide +kernel
theorem dX4_readsText_22 : decode cX4_readsText 22 = .ok (.aload_n 0, 1) := by decide +kernel
theorem dX4_readsText_23 : decode cX4_readsText 23 = .ok (.getfield 21, 3) := by decide +kernel
theorem dX4_readsText_26 : decode cX4_readsText 26 = .ok (.aload_n 0, 1) := by decide +kernel
theorem dX4_readsText_27 : decode cX4_readsText 27 = .ok (.getfield 35, 3) := by decide +kernel
theorem dX4_readsText_30 : decode cX4_readsText 30 = .ok (.if_icmp .ne 7, 3) := by decide +kernel
theorem dX4_readsText_33 : decode cX4_readsText 33 = .ok (.iconst 1, 1) := by decide +kernel
theorem dX4_readsText_34 : decode cX4_readsText 34 = .ok (.goto 4, 3) := by decide +kernel
theorem dX4_readsText_37 : decode cX4_readsText 37 = .ok (.iconst 0, 1) := by decide +kernel
theorem dX4_readsText_38 : decode cX4_readsText 38 = .ok (.ireturn, 1) := by decide +kernel
theorem dX4_next_0 : decode cX4_next 0 = .ok (.aload_n 0, 1) := by decide +kernel
theorem dX4_next_1 : decode cX4_next 1 = .ok (.getfield 21, 3) := by decide +kernel
theorem dX4_next_4 : decode cX4_next 4 = .ok (.aload_n 0, 1) := by decide +kernel
theorem dX4_next_5 : decode cX4_next 5 = .ok (.getfield 35, 3) := by decide +kernel
theorem dX4_next_8 : decode cX4_next 8 = .ok (.if_icmp .ge 24, 3) := by decide +kernel
theorem dX4_next_11 : decode cX4_next 11 = .ok (.aload_n 0, 1) := by decide +kernel
theorem dX4_next_12 : decode cX4_next 12 = .ok (.getfield 21, 3) := by decide +kernel
theorem dX4_next_15 : decode cX4_next 15 = .ok (.bipush 60, 2) := by decide +kernel
theorem dX4_next_17 : decode cX4_next 17 = .ok (.if_icmp .ge 15, 3) := by decide +kernel
theorem dX4_next_20 : decode cX4_next 20 = .ok (.aload_n 0, 1) := by decide +kernel
theorem dX4_next_21 : decode cX4_next 21 = .ok (.getfield 9, 3) := by decide +kernel
theorem dX4_next_24 : decode cX4_next 24 = .ok (.aload_n 0, 1) := by decide +kernel
theorem dX4_next_25 : decode cX4_next 25 = .ok (.getfield 21, 3) := by decide +kernel
theorem dX4_next_28 : decode cX4_next 28 = .ok (.iaload, 1) := by decide +kernel
theorem dX4_next_29 : decode cX4_next 29 = .ok (.goto 4, 3) := by decide +kernel
theorem dX4_next_32 : decode cX4_next 32 = .ok (.iconst 0, 1) := by decide +kernel
theorem dX4_next_33 : decode cX4_next 33 = .ok (.ireturn, 1) := by decide +kernel
theorem dX4_takes_0 : decode cX4_takes 0 = .ok (.aload_n 0, 1) := by decide +kernel
theorem dX4_takes_1 : decode cX4_takes 1 = .ok (.invokevirtual 38, 3) := by decide +kernel
theorem dX4_takes_4 : decode cX4_takes 4 = .ok (.iload_n 1, 1) := by decide +kernel
theorem dX4_takes_5 : decode cX4_takes 5 = .ok (.if_icmp .eq 5, 3) := by decide +kernel
theorem dX4_takes_8 : decode cX4_takes 8 = .ok (.iconst 0, 1) := by decide +kernel
theorem dX4_takes_9 : decode cX4_takes 9 = .ok (.ireturn, 1) := by decide +kernel
theorem dX4_takes_10 : decode cX4_takes 10 = .ok (.aload_n 0, 1) := by decide +kernel
theorem dX4_takes_11 : decode cX4_takes 11 = .ok (.dup, 1) := by decide +kernel
theorem dX4_takes_12 : decode cX4_takes 12 = .ok (.getfield 21, 3) := by decide +kernel
theorem dX4_takes_15 : decode cX4_takes 15 = .ok (.iconst 1, 1) := by decide +kernel
theorem dX4_takes_16 : decode cX4_takes 16 = .ok (.iadd, 1) := by decide +kernel
theorem dX4_takes_17 : decode cX4_takes 17 = .ok (.putfield 21, 3) := by decide +kernel
theorem dX4_takes_20 : decode cX4_takes 20 = .ok (.iconst 1, 1) := by decide +kernel
theorem dX4_takes_21 : decode cX4_takes 21 = .ok (.ireturn, 1) := by decide +kernel
theorem dX4_takeFigure_0 : decode cX4_takeFigure 0 = .ok (.aload_n 0, 1) := by decide +kernel
theorem dX4_takeFigure_1 : decode cX4_takeFigure 1 = .ok (.invokevirtual 38, 3) := by decide +kernel
theorem dX4_takeFigure_4 : decode cX4_takeFigure 4 = .ok (.bipush 48, 2) := by decide +kernel
theorem dX4_takeFigure_6 : decode cX4_takeFigure 6 = .ok (.isub, 1) := by decide +kernel
theorem dX4_takeFigure_7 : decode cX4_takeFigure 7 = .ok (.istore_n 2, 1) := by decide +kernel
theorem dX4_takeFigure_8 : decode cX4_takeFigure 8 = .ok (.iload_n 2, 1) := by decide +kernel
theorem dX4_takeFigure_9 : decode cX4_takeFigure 9 = .ok (.ifCond .lt 8, 3) := by decide +kernel
theorem dX4_takeFigure_12 : decode cX4_takeFigure 12 = .ok (.iload_n 2, 1) := by decide +kernel
theorem dX4_takeFigure_13 : decode cX4_takeFigure 13 = .ok (.iload_n 1, 1) := by decide +kernel
theorem dX4_takeFigure_14 : decode cX4_takeFigure 14 = .ok (.if_icmp .le 5, 3) := by decide +kernel
theorem dX4_takeFigure_17 : decode cX4_takeFigure 17 = .ok (.iconst (-1), 1) := by decide +kernel
theorem dX4_takeFigure_18 : decode cX4_takeFigure 18 = .ok (.ireturn, 1) := by decide +kernel
theorem dX4_takeFigure_19 : decode cX4_takeFigure 19 = .ok (.aload_n 0, 1) := by decide +kernel
theorem dX4_takeFigure_20 : decode cX4_takeFigure 20 = .ok (.dup, 1) := by decide +kernel
theorem dX4_takeFigure_21 : decode cX4_takeFigure 21 = .ok (.getfield 21, 3) := by decide +kernel
theorem dX4_takeFigure_24 : decode cX4_takeFigure 24 = .ok (.iconst 1, 1) := by decide +kernel
theorem dX4_takeFigure_25 : decode cX4_takeFigure 25 = .ok (.iadd, 1) := by decide +kernel
theorem dX4_takeFigure_26 : decode cX4_takeFigure 26 = .ok (.putfield 21, 3) := by decide +kernel
theorem dX4_takeFigure_29 : decode cX4_takeFigure 29 = .ok (.iload_n 2, 1) := by decide +kernel
theorem dX4_takeFigure_30 : decode cX4_takeFigure 30 = .ok (.ireturn, 1) := by decide +kernel
theorem dX4_readsItems_0 : decode cX4_readsItems 0 = .ok (.iconst 0, 1) := by decide +kernel
theorem dX4_readsItems_1 : decode cX4_readsItems 1 = .ok (.istore_n 1, 1) := by decide +kernel
theorem dX4_readsItems_2 : decode cX4_readsItems 2 = .ok (.iload_n 1, 1) := by decide +kernel
theorem dX4_readsItems_3 : decode cX4_readsItems 3 = .ok (.bipush 60, 2) := by decide +kernel
theorem dX4_readsItems_5 : decode cX4_readsItems 5 = .ok (.if_icmp .ge 29, 3) := by decide +kernel
theorem dX4_readsItems_8 : decode cX4_readsItems 8 = .ok (.aload_n 0, 1) := by decide +kernel
theorem dX4_readsItems_9 : decode cX4_readsItems 9 = .ok (.invokevirtual 42, 3) := by decide +kernel
theorem dX4_readsItems_12 : decode cX4_readsItems 12 = .ok (.ifCond .ne 5, 3) := by decide +kernel
theorem dX4_readsItems_15 : decode cX4_readsItems 15 = .ok (.iconst 0, 1) := by decide +kernel
theorem dX4_readsItems_16 : decode cX4_readsItems 16 = .ok (.ireturn, 1) := by decide +kernel
theorem dX4_readsItems_17 : decode cX4_readsItems 17 = .ok (.aload_n 0, 1) := by decide +kernel
theorem dX4_readsItems_18 : decode cX4_readsItems 18 = .ok (.bipush 59, 2) := by decide +kernel
theorem dX4_readsItems_20 : decode cX4_readsItems 20 = .ok (.invokevirtual 45, 3) := by decide +kernel
theorem dX4_readsItems_23 : decode cX4_readsItems 23 = .ok (.ifCond .ne 5, 3) := by decide +kernel
theorem dX4_readsItems_26 : decode cX4_readsItems 26 = .ok (.iconst 1, 1) := by decide +kernel
theorem dX4_readsItems_27 : decode cX4_readsItems 27 = .ok (.ireturn, 1) := by decide +kernel
theorem dX4_readsItems_28 : decode cX4_readsItems 28 = .ok (.iinc 1 1, 3) := by decide +kernel
theorem dX4_readsItems_31 : decode cX4_readsItems 31 = .ok (.goto (-29), 3) := by decide +kernel
theorem dX4_readsItems_34 : decode cX4_readsItems 34 = .ok (.iconst 0, 1) := by decide +kernel
theorem dX4_readsItems_35 : decode cX4_readsItems 35 = .ok (.ireturn, 1) := by decide +kernel
theorem dX4_readsItem_0 : decode cX4_readsItem 0 = .ok (.aload_n 0, 1) := by decide +kernel
theorem dX4_readsItem_1 : decode cX4_readsItem 1 = .ok (.invokevirtual 38, 3) := by decide +kernel
theorem dX4_readsItem_4 : decode cX4_readsItem 4 = .ok (.ifCond .ne 7, 3) := by decide +kernel
theorem dX4_readsItem_7 : decode cX4_readsItem 7 = .ok (.iconst (-1), 1) := by decide +kernel
theorem dX4_readsItem_8 : decode cX4_readsItem 8 = .ok (.goto 13, 3) := by decide +kernel
theorem dX4_readsItem_11 : decode cX4_readsItem 11 = .ok (.ldc 49, 2) := by decide +kernel
theorem dX4_readsItem_13 : decode cX4_readsItem 13 = .ok (.aload_n 0, 1) := by decide +kernel
theorem dX4_readsItem_14 : decode cX4_readsItem 14 = .ok (.invokevirtual 38, 3) := by decide +kernel
theorem dX4_readsItem_17 : decode cX4_readsItem 17 = .ok (.i2c, 1) := by decide +kernel
theorem dX4_readsItem_18 : decode cX4_readsItem 18 = .ok (.invokevirtual 51, 3) := by decide +kernel
theorem dX4_readsItem_21 : decode cX4_readsItem 21 = .ok (.istore_n 1, 1) := by decide +kernel
theorem dX4_readsItem_22 : decode cX4_readsItem 22 = .ok (.iload_n 1, 1) := by decide +kernel
theorem dX4_readsItem_23 : decode cX4_readsItem 23 = .ok (.ifCond .lt 19, 3) := by decide +kernel
theorem dX4_readsItem_26 : decode cX4_readsItem 26 = .ok (.aload_n 0, 1) := by decide +kernel
theorem dX4_readsItem_27 : decode cX4_readsItem 27 = .ok (.dup, 1) := by decide +kernel
theorem dX4_readsItem_28 : decode cX4_readsItem 28 = .ok (.getfield 21, 3) := by decide +kernel
theorem dX4_readsItem_31 : decode cX4_readsItem 31 = .ok (.iconst 1, 1) := by decide +kernel
theorem dX4_readsItem_32 : decode cX4_readsItem 32 = .ok (.iadd, 1) := by decide +kernel
theorem dX4_readsItem_33 : decode cX4_readsItem 33 = .ok (.putfield 21, 3) := by decide +kernel
theorem dX4_readsItem_36 : decode cX4_readsItem 36 = .ok (.aload_n 0, 1) := by decide +kernel
theorem dX4_readsItem_37 : decode cX4_readsItem 37 = .ok (.iload_n 1, 1) := by decide +kernel
theorem dX4_readsItem_38 : decode cX4_readsItem 38 = .ok (.invokevirtual 57, 3) := by decide +kernel
theorem dX4_readsItem_41 : decode cX4_readsItem 41 = .ok (.ireturn, 1) := by decide +kernel
theorem dX4_readsItem_42 : decode cX4_readsItem 42 = .ok (.aload_n 0, 1) := by decide +kernel
theorem dX4_readsItem_43 : decode cX4_readsItem 43 = .ok (.invokevirtual 38, 3) := by decide +kernel
theorem dX4_readsItem_46 : decode cX4_readsItem 46 = .ok (.bipush 50, 2) := by decide +kernel
theorem dX4_readsItem_48 : decode cX4_readsItem 48 = .ok (.if_icmp .lt 31, 3) := by decide +kernel
theorem dX4_readsItem_51 : decode cX4_readsItem 51 = .ok (.aload_n 0, 1) := by decide +kernel
theorem dX4_readsItem_52 : decode cX4_readsItem 52 = .ok (.invokevirtual 38, 3) := by decide +kernel
theorem dX4_readsItem_55 : decode cX4_readsItem 55 = .ok (.bipush 52, 2) := by decide +kernel
theorem dX4_readsItem_57 : decode cX4_readsItem 57 = .ok (.if_icmp .gt 22, 3) := by decide +kernel
theorem dX4_readsItem_60 : decode cX4_readsItem 60 = .ok (.aload_n 0, 1) := by decide +kernel
theorem dX4_readsItem_61 : decode cX4_readsItem 61 = .ok (.getfield 25, 3) := by decide +kernel
theorem dX4_readsItem_64 : decode cX4_readsItem 64 = .ok (.iconst 3, 1) := by decide +kernel
theorem dX4_readsItem_65 : decode cX4_readsItem 65 = .ok (.if_icmp .ge 14, 3) := by decide +kernel
theorem dX4_readsItem_68 : decode cX4_readsItem 68 = .ok (.aload_n 0, 1) := by decide +kernel
theorem dX4_readsItem_69 : decode cX4_readsItem 69 = .ok (.invokevirtual 61, 3) := by decide +kernel
theorem dX4_readsItem_72 : decode cX4_readsItem 72 = .ok (.ifCond .eq 7, 3) := by decide +kernel
theorem dX4_readsItem_75 : decode cX4_readsItem 75 = .ok (.iconst 1, 1) := by decide +kernel
theorem dX4_readsItem_76 : decode cX4_readsItem 76 = .ok (.goto 4, 3) := by decide +kernel
theorem dX4_readsItem_79 : decode cX4_readsItem 79 = .ok (.iconst 0, 1) := by decide +kernel
theorem dX4_readsItem_80 : decode cX4_readsItem 80 = .ok (.ireturn, 1) := by decide +kernel
theorem dX4_readsGroup_0 : decode cX4_readsGroup 0 = .ok (.aload_n 0, 1) := by decide +kernel
theorem dX4_readsGroup_1 : decode cX4_readsGroup 1 = .ok (.iconst 4, 1) := by decide +kernel
theorem dX4_readsGroup_2 : decode cX4_readsGroup 2 = .ok (.invokevirtual 64, 3) := by decide +kernel
theorem dX4_readsGroup_5 : decode cX4_readsGroup 5 = .ok (.istore_n 1, 1) := by decide +kernel
theorem dX4_readsGroup_6 : decode cX4_readsGroup 6 = .ok (.aload_n 0, 1) := by decide +kernel
theorem dX4_readsGroup_7 : decode cX4_readsGroup 7 = .ok (.invokevirtual 38, 3) := by decide +kernel
theorem dX4_readsGroup_10 : decode cX4_readsGroup 10 = .ok (.bipush 40, 2) := by decide +kernel
theorem dX4_readsGroup_12 : decode cX4_readsGroup 12 = .ok (.if_icmp .eq 5, 3) := by decide +kernel
theorem dX4_readsGroup_15 : decode cX4_readsGroup 15 = .ok (.iconst 0, 1) := by decide +kernel
theorem dX4_readsGroup_16 : decode cX4_readsGroup 16 = .ok (.ireturn, 1) := by decide +kernel
theorem dX4_readsGroup_17 : decode cX4_readsGroup 17 = .ok (.aload_n 0, 1) := by decide +kernel
theorem dX4_readsGroup_18 : decode cX4_readsGroup 18 = .ok (.getfield 15, 3) := by decide +kernel
theorem dX4_readsGroup_21 : decode cX4_readsGroup 21 = .ok (.aload_n 0, 1) := by decide +kernel
theorem dX4_readsGroup_22 : decode cX4_readsGroup 22 = .ok (.getfield 25, 3) := by decide +kernel
theorem dX4_readsGroup_25 : decode cX4_readsGroup 25 = .ok (.aload_n 0, 1) := by decide +kernel
theorem dX4_readsGroup_26 : decode cX4_readsGroup 26 = .ok (.getfield 21, 3) := by decide +kernel
theorem dX4_readsGroup_29 : decode cX4_readsGroup 29 = .ok (.iastore, 1) := by decide +kernel
theorem dX4_readsGroup_30 : decode cX4_readsGroup 30 = .ok (.aload_n 0, 1) := by decide +kernel
theorem dX4_readsGroup_31 : decode cX4_readsGroup 31 = .ok (.dup, 1) := by decide +kernel
theorem dX4_readsGroup_32 : decode cX4_readsGroup 32 = .ok (.getfield 25, 3) := by decide +kernel
theorem dX4_readsGroup_35 : decode cX4_readsGroup 35 = .ok (.iconst 1, 1) := by decide +kernel
theorem dX4_readsGroup_36 : decode cX4_readsGroup 36 = .ok (.iadd, 1) := by decide +kernel
theorem dX4_readsGroup_37 : decode cX4_readsGroup 37 = .ok (.putfield 25, 3) := by decide +kernel
theorem dX4_readsGroup_40 : decode cX4_readsGroup 40 = .ok (.aload_n 0, 1) := by decide +kernel
theorem dX4_readsGroup_41 : decode cX4_readsGroup 41 = .ok (.dup, 1) := by decide +kernel
theorem dX4_readsGroup_42 : decode cX4_readsGroup 42 = .ok (.getfield 21, 3) := by decide +kernel
theorem dX4_readsGroup_45 : decode cX4_readsGroup 45 = .ok (.iconst 1, 1) := by decide +kernel
theorem dX4_readsGroup_46 : decode cX4_readsGroup 46 = .ok (.iadd, 1) := by decide +kernel
theorem dX4_readsGroup_47 : decode cX4_readsGroup 47 = .ok (.putfield 21, 3) := by decide +kernel
theorem dX4_readsGroup_50 : decode cX4_readsGroup 50 = .ok (.aload_n 0, 1) := by decide +kernel
theorem dX4_readsGroup_51 : decode cX4_readsGroup 51 = .ok (.getfield 28, 3) := by decide +kernel
theorem dX4_readsGroup_54 : decode cX4_readsGroup 54 = .ok (.istore_n 2, 1) := by decide +kernel
theorem dX4_readsGroup_55 : decode cX4_readsGroup 55 = .ok (.aload_n 0, 1) := by decide +kernel
theorem dX4_readsGroup_56 : decode cX4_readsGroup 56 = .ok (.invokevirtual 31, 3) := by decide +kernel
theorem dX4_readsGroup_59 : decode cX4_readsGroup 59 = .ok (.ifCond .eq 12, 3) := by decide +kernel
theorem dX4_readsGroup_62 : decode cX4_readsGroup 62 = .ok (.aload_n 0, 1) := by decide +kernel
theorem dX4_readsGroup_63 : decode cX4_readsGroup 63 = .ok (.bipush 41, 2) := by decide +kernel
theorem dX4_readsGroup_65 : decode cX4_readsGroup 65 = .ok (.invokevirtual 45, 3) := by decide +kernel
theorem dX4_readsGroup_68 : decode cX4_readsGroup 68 = .ok (.ifCond .ne 5, 3) := by decide +kernel
theorem dX4_readsGroup_71 : decode cX4_readsGroup 71 = .ok (.iconst 0, 1) := by decide +kernel
theorem dX4_readsGroup_72 : decode cX4_readsGroup 72 = .ok (.ireturn, 1) := by decide +kernel
theorem dX4_readsGroup_73 : decode cX4_readsGroup 73 = .ok (.aload_n 0, 1) := by decide +kernel
theorem dX4_readsGroup_74 : decode cX4_readsGroup 74 = .ok (.dup, 1) := by decide +kernel
theorem dX4_readsGroup_75 : decode cX4_readsGroup 75 = .ok (.getfield 25, 3) := by decide +kernel
theorem dX4_readsGroup_78 : decode cX4_readsGroup 78 = .ok (.iconst 1, 1) := by decide +kernel
theorem dX4_readsGroup_79 : decode cX4_readsGroup 79 = .ok (.isub, 1) := by decide +kernel
theorem dX4_readsGroup_80 : decode cX4_readsGroup 80 = .ok (.putfield 25, 3) := by decide +kernel
theorem dX4_readsGroup_83 : decode cX4_readsGroup 83 = .ok (.aload_n 0, 1) := by decide +kernel
theorem dX4_readsGroup_84 : decode cX4_readsGroup 84 = .ok (.iload_n 2, 1) := by decide +kernel
theorem dX4_readsGroup_85 : decode cX4_readsGroup 85 = .ok (.aload_n 0, 1) := by decide +kernel
theorem dX4_readsGroup_86 : decode cX4_readsGroup 86 = .ok (.getfield 28, 3) := by decide +kernel
theorem dX4_readsGroup_89 : decode cX4_readsGroup 89 = .ok (.iload_n 2, 1) := by decide +kernel
theorem dX4_readsGroup_90 : decode cX4_readsGroup 90 = .ok (.isub, 1) := by decide +kernel
theorem dX4_readsGroup_91 : decode cX4_readsGroup 91 = .ok (.iload_n 1, 1) := by decide +kernel
theorem dX4_readsGroup_92 : decode cX4_readsGroup 92 = .ok (.iconst 1, 1) := by decide +kernel
theorem dX4_readsGroup_93 : decode cX4_readsGroup 93 = .ok (.isub, 1) := by decide +kernel
theorem dX4_readsGroup_94 : decode cX4_readsGroup 94 = .ok (.imul, 1) := by decide +kernel
theorem dX4_readsGroup_95 : decode cX4_readsGroup 95 = .ok (.invokevirtual 67, 3) := by decide +kernel
theorem dX4_readsGroup_98 : decode cX4_readsGroup 98 = .ok (.iconst 1, 1) := by decide +kernel
theorem dX4_readsGroup_99 : decode cX4_readsGroup 99 = .ok (.ireturn, 1) := by decide +kernel
theorem dX4_repeat_0 : decode cX4_repeat 0 = .ok (.iload_n 1, 1) := by decide +kernel
theorem dX4_repeat_1 : decode cX4_repeat 1 = .ok (.istore_n 3, 1) := by decide +kernel
theorem dX4_repeat_2 : decode cX4_repeat 2 = .ok (.iload_n 3, 1) := by decide +kernel
theorem dX4_repeat_3 : decode cX4_repeat 3 = .ok (.iload_n 1, 1) := by decide +kernel
theorem dX4_repeat_4 : decode cX4_repeat 4 = .ok (.iload_n 2, 1) := by decide +kernel
theorem dX4_repeat_5 : decode cX4_repeat 5 = .ok (.iadd, 1) := by decide +kernel
theorem dX4_repeat_6 : decode cX4_repeat 6 = .ok (.if_icmp .ge 29, 3) := by decide +kernel
theorem dX4_repeat_9 : decode cX4_repeat 9 = .ok (.aload_n 0, 1) := by decide +kernel
theorem dX4_repeat_10 : decode cX4_repeat 10 = .ok (.iload_n 3, 1) := by decide +kernel
theorem dX4_repeat_11 : decode cX4_repeat 11 = .ok (.bipush 8, 2) := by decide +kernel
theorem dX4_repeat_13 : decode cX4_repeat 13 = .ok (.if_icmp .ge 12, 3) := by decide +kernel
theorem dX4_repeat_16 : decode cX4_repeat 16 = .ok (.aload_n 0, 1) := by decide +kernel
theorem dX4_repeat_17 : decode cX4_repeat 17 = .ok (.getfield 18, 3) := by decide +kernel
theorem dX4_repeat_20 : decode cX4_repeat 20 = .ok (.iload_n 3, 1) := by decide +kernel
theorem dX4_repeat_21 : decode cX4_repeat 21 = .ok (.iaload, 1) := by decide +kernel
theorem dX4_repeat_22 : decode cX4_repeat 22 = .ok (.goto 4, 3) := by decide +kernel
theorem dX4_repeat_25 : decode cX4_repeat 25 = .ok (.iconst 0, 1) := by decide +kernel
theorem dX4_repeat_26 : decode cX4_repeat 26 = .ok (.invokevirtual 71, 3) := by decide +kernel
theorem dX4_repeat_29 : decode cX4_repeat 29 = .ok (.iinc 3 1, 3) := by decide +kernel
theorem dX4_repeat_32 : decode cX4_repeat 32 = .ok (.goto (-30), 3) := by decide +kernel
theorem dX4_repeat_35 : decode cX4_repeat 35 = .ok (.return_, 1) := by decide +kernel
theorem dX4_keep_0 : decode cX4_keep 0 = .ok (.aload_n 0, 1) := by decide +kernel
theorem dX4_keep_1 : decode cX4_keep 1 = .ok (.getfield 28, 3) := by decide +kernel
theorem dX4_keep_4 : decode cX4_keep 4 = .ok (.bipush 8, 2) := by decide +kernel
theorem dX4_keep_6 : decode cX4_keep 6 = .ok (.if_icmp .ge 13, 3) := by decide +kernel
theorem dX4_keep_9 : decode cX4_keep 9 = .ok (.aload_n 0, 1) := by decide +kernel
theorem dX4_keep_10 : decode cX4_keep 10 = .ok (.getfield 18, 3) := by decide +kernel
theorem dX4_keep_13 : decode cX4_keep 13 = .ok (.aload_n 0, 1) := by decide +kernel
theorem dX4_keep_14 : decode cX4_keep 14 = .ok (.getfield 28, 3) := by decide +kernel
theorem dX4_keep_17 : decode cX4_keep 17 = .ok (.iload_n 1, 1) := by decide +kernel
theorem dX4_keep_18 : decode cX4_keep 18 = .ok (.iastore, 1) := by decide +kernel
theorem dX4_keep_19 : decode cX4_keep 19 = .ok (.aload_n 0, 1) := by decide +kernel
theorem dX4_keep_20 : decode cX4_keep 20 = .ok (.dup, 1) := by decide +kernel
theorem dX4_keep_21 : decode cX4_keep 21 = .ok (.getfield 28, 3) := by decide +kernel
theorem dX4_keep_24 : decode cX4_keep 24 = .ok (.iconst 1, 1) := by decide +kernel
theorem dX4_keep_25 : decode cX4_keep 25 = .ok (.iadd, 1) := by decide +kernel
theorem dX4_keep_26 : decode cX4_keep 26 = .ok (.putfield 28, 3) := by decide +kernel
theorem dX4_keep_29 : decode cX4_keep 29 = .ok (.return_, 1) := by decide +kernel
theorem dX4_readsFilter_0 : decode cX4_readsFilter 0 = .ok (.iconst 0, 1) := by decide +kernel
theorem dX4_readsFilter_1 : decode cX4_readsFilter 1 = .ok (.istore_n 2, 1) := by decide +kernel
theorem dX4_readsFilter_2 : decode cX4_readsFilter 2 = .ok (.iconst 0, 1) := by decide +kernel
theorem dX4_readsFilter_3 : decode cX4_readsFilter 3 = .ok (.istore_n 3, 1) := by decide +kernel
theorem dX4_readsFilter_4 : decode cX4_readsFilter 4 = .ok (.iload_n 1, 1) := by decide +kernel
theorem dX4_readsFilter_5 : decode cX4_readsFilter 5 = .ok (.invokestatic 75, 3) := by decide +kernel
theorem dX4_readsFilter_8 : decode cX4_readsFilter 8 = .ok (.ifCond .eq 15, 3) := by decide +kernel
theorem dX4_readsFilter_11 : decode cX4_readsFilter 11 = .ok (.aload_n 0, 1) := by decide +kernel
theorem dX4_readsFilter_12 : decode cX4_readsFilter 12 = .ok (.iconst 3, 1) := by decide +kernel
theorem dX4_readsFilter_13 : decode cX4_readsFilter 13 = .ok (.invokevirtual 64, 3) := by decide +kernel
theorem dX4_readsFilter_16 : decode cX4_readsFilter 16 = .ok (.istore_n 2, 1) := by decide +kernel
theorem dX4_readsFilter_17 : decode cX4_readsFilter 17 = .ok (.iload_n 2, 1) := by decide +kernel
theorem dX4_readsFilter_18 : decode cX4_readsFilter 18 = .ok (.ifCond .ge 5, 3) := by decide +kernel
theorem dX4_readsFilter_21 : decode cX4_readsFilter 21 = .ok (.iconst 0, 1) := by decide +kernel
theorem dX4_readsFilter_22 : decode cX4_readsFilter 22 = .ok (.ireturn, 1) := by decide +kernel
theorem dX4_readsFilter_23 : decode cX4_readsFilter 23 = .ok (.iload_n 1, 1) := by decide +kernel
theorem dX4_readsFilter_24 : decode cX4_readsFilter 24 = .ok (.invokestatic 75, 3) := by decide +kernel
theorem dX4_readsFilter_27 : decode cX4_readsFilter 27 = .ok (.ifCond .eq 21, 3) := by decide +kernel
theorem dX4_readsFilter_30 : decode cX4_readsFilter 30 = .ok (.iload_n 1, 1) := by decide +kernel
theorem dX4_readsFilter_31 : decode cX4_readsFilter 31 = .ok (.invokestatic 78, 3) := by decide +kernel
theorem dX4_readsFilter_34 : decode cX4_readsFilter 34 = .ok (.ifCond .eq 14, 3) := by decide +kernel
theorem dX4_readsFilter_37 : decode cX4_readsFilter 37 = .ok (.aload_n 0, 1) := by decide +kernel
theorem dX4_readsFilter_38 : decode cX4_readsFilter 38 = .ok (.bipush 44, 2) := by decide +kernel
theorem dX4_readsFilter_40 : decode cX4_readsFilter 40 = .ok (.invokevirtual 45, 3) := by decide +kernel
theorem dX4_readsFilter_43 : decode cX4_readsFilter 43 = .ok (.ifCond .ne 5, 3) := by decide +kernel
theorem dX4_readsFilter_46 : decode cX4_readsFilter 46 = .ok (.iconst 0, 1) := by decide +kernel
theorem dX4_readsFilter_47 : decode cX4_readsFilter 47 = .ok (.ireturn, 1) := by decide +kernel
theorem dX4_readsFilter_48 : decode cX4_readsFilter 48 = .ok (.iload_n 1, 1) := by decide +kernel
theorem dX4_readsFilter_49 : decode cX4_readsFilter 49 = .ok (.invokestatic 78, 3) := by decide +kernel
theorem dX4_readsFilter_52 : decode cX4_readsFilter 52 = .ok (.ifCond .eq 14, 3) := by decide +kernel
theorem dX4_readsFilter_55 : decode cX4_readsFilter 55 = .ok (.aload_n 0, 1) := by decide +kernel
theorem dX4_readsFilter_56 : decode cX4_readsFilter 56 = .ok (.invokevirtual 81, 3) := by decide +kernel
theorem dX4_readsFilter_59 : decode cX4_readsFilter 59 = .ok (.istore_n 3, 1) := by decide +kernel
theorem dX4_readsFilter_60 : decode cX4_readsFilter 60 = .ok (.iload_n 3, 1) := by decide +kernel
theorem dX4_readsFilter_61 : decode cX4_readsFilter 61 = .ok (.ifCond .ge 5, 3) := by decide +kernel
theorem dX4_readsFilter_64 : decode cX4_readsFilter 64 = .ok (.iconst 0, 1) := by decide +kernel
theorem dX4_readsFilter_65 : decode cX4_readsFilter 65 = .ok (.ireturn, 1) := by decide +kernel
theorem dX4_readsFilter_66 : decode cX4_readsFilter 66 = .ok (.aload_n 0, 1) := by decide +kernel
theorem dX4_readsFilter_67 : decode cX4_readsFilter 67 = .ok (.iload_n 1, 1) := by decide +kernel
theorem dX4_readsFilter_68 : decode cX4_readsFilter 68 = .ok (.iload_n 2, 1) := by decide +kernel
theorem dX4_readsFilter_69 : decode cX4_readsFilter 69 = .ok (.iload_n 3, 1) := by decide +kernel
theorem dX4_readsFilter_70 : decode cX4_readsFilter 70 = .ok (.invokestatic 84, 3) := by decide +kernel
theorem dX4_readsFilter_73 : decode cX4_readsFilter 73 = .ok (.invokevirtual 71, 3) := by decide +kernel
theorem dX4_readsFilter_76 : decode cX4_readsFilter 76 = .ok (.iconst 1, 1) := by decide +kernel
theorem dX4_readsFilter_77 : decode cX4_readsFilter 77 = .ok (.ireturn, 1) := by decide +kernel
theorem dX4_takeNumber_0 : decode cX4_takeNumber 0 = .ok (.aload_n 0, 1) := by decide +kernel
theorem dX4_takeNumber_1 : decode cX4_takeNumber 1 = .ok (.bipush 9, 2) := by decide +kernel
theorem dX4_takeNumber_3 : decode cX4_takeNumber 3 = .ok (.invokevirtual 64, 3) := by decide +kernel
theorem dX4_takeNumber_6 : decode cX4_takeNumber 6 = .ok (.istore_n 1, 1) := by decide +kernel
theorem dX4_takeNumber_7 : decode cX4_takeNumber 7 = .ok (.iload_n 1, 1) := by decide +kernel
theorem dX4_takeNumber_8 : decode cX4_takeNumber 8 = .ok (.ifCond .ge 5, 3) := by decide +kernel
theorem dX4_takeNumber_11 : decode cX4_takeNumber 11 = .ok (.iconst (-1), 1) := by decide +kernel
theorem dX4_takeNumber_12 : decode cX4_takeNumber 12 = .ok (.ireturn, 1) := by decide +kernel
theorem dX4_takeNumber_13 : decode cX4_takeNumber 13 = .ok (.aload_n 0, 1) := by decide +kernel
theorem dX4_takeNumber_14 : decode cX4_takeNumber 14 = .ok (.invokevirtual 38, 3) := by decide +kernel
theorem dX4_takeNumber_17 : decode cX4_takeNumber 17 = .ok (.bipush 48, 2) := by decide +kernel
theorem dX4_takeNumber_19 : decode cX4_takeNumber 19 = .ok (.isub, 1) := by decide +kernel
theorem dX4_takeNumber_20 : decode cX4_takeNumber 20 = .ok (.istore_n 2, 1) := by decide +kernel
theorem dX4_takeNumber_21 : decode cX4_takeNumber 21 = .ok (.iload_n 2, 1) := by decide +kernel
theorem dX4_takeNumber_22 : decode cX4_takeNumber 22 = .ok (.ifCond .lt 9, 3) := by decide +kernel
theorem dX4_takeNumber_25 : decode cX4_takeNumber 25 = .ok (.iload_n 2, 1) := by decide +kernel
theorem dX4_takeNumber_26 : decode cX4_takeNumber 26 = .ok (.bipush 9, 2) := by decide +kernel
theorem dX4_takeNumber_28 : decode cX4_takeNumber 28 = .ok (.if_icmp .le 5, 3) := by decide +kernel
theorem dX4_takeNumber_31 : decode cX4_takeNumber 31 = .ok (.iload_n 1, 1) := by decide +kernel
theorem dX4_takeNumber_32 : decode cX4_takeNumber 32 = .ok (.ireturn, 1) := by decide +kernel
theorem dX4_takeNumber_33 : decode cX4_takeNumber 33 = .ok (.bipush 10, 2) := by decide +kernel
theorem dX4_takeNumber_35 : decode cX4_takeNumber 35 = .ok (.iload_n 1, 1) := by decide +kernel
theorem dX4_takeNumber_36 : decode cX4_takeNumber 36 = .ok (.imul, 1) := by decide +kernel
theorem dX4_takeNumber_37 : decode cX4_takeNumber 37 = .ok (.iload_n 2, 1) := by decide +kernel
theorem dX4_takeNumber_38 : decode cX4_takeNumber 38 = .ok (.iadd, 1) := by decide +kernel
theorem dX4_takeNumber_39 : decode cX4_takeNumber 39 = .ok (.invokestatic 88, 3) := by decide +kernel
theorem dX4_takeNumber_42 : decode cX4_takeNumber 42 = .ok (.ifCond .ne 5, 3) := by decide +kernel
theorem dX4_takeNumber_45 : decode cX4_takeNumber 45 = .ok (.iconst (-1), 1) := by decide +kernel
theorem dX4_takeNumber_46 : decode cX4_takeNumber 46 = .ok (.ireturn, 1) := by decide +kernel
theorem dX4_takeNumber_47 : decode cX4_takeNumber 47 = .ok (.aload_n 0, 1) := by decide +kernel
theorem dX4_takeNumber_48 : decode cX4_takeNumber 48 = .ok (.dup, 1) := by decide +kernel
theorem dX4_takeNumber_49 : decode cX4_takeNumber 49 = .ok (.getfield 21, 3) := by decide +kernel
theorem dX4_takeNumber_52 : decode cX4_takeNumber 52 = .ok (.iconst 1, 1) := by decide +kernel
theorem dX4_takeNumber_53 : decode cX4_takeNumber 53 = .ok (.iadd, 1) := by decide +kernel
theorem dX4_takeNumber_54 : decode cX4_takeNumber 54 = .ok (.putfield 21, 3) := by decide +kernel
theorem dX4_takeNumber_57 : decode cX4_takeNumber 57 = .ok (.bipush 10, 2) := by decide +kernel
theorem dX4_takeNumber_59 : decode cX4_takeNumber 59 = .ok (.iload_n 1, 1) := by decide +kernel
theorem dX4_takeNumber_60 : decode cX4_takeNumber 60 = .ok (.imul, 1) := by decide +kernel
theorem dX4_takeNumber_61 : decode cX4_takeNumber 61 = .ok (.iload_n 2, 1) := by decide +kernel
theorem dX4_takeNumber_62 : decode cX4_takeNumber 62 = .ok (.iadd, 1) := by decide +kernel
theorem dX4_takeNumber_63 : decode cX4_takeNumber 63 = .ok (.ireturn, 1) := by decide +kernel
theorem dX5_init_0 : decode cX5_init 0 = .ok (.aload_n 0, 1) := by decide +kernel
theorem dX5_init_1 : decode cX5_init 1 = .ok (.invokespecial 3, 3) := by decide +kernel
theorem dX5_init_4 : decode cX5_init 4 = .ok (.aload_n 0, 1) := by decide +kernel
theorem dX5_init_5 : decode cX5_init 5 = .ok (.iconst 4, 1) := by decide +kernel
theorem dX5_init_6 : decode cX5_init 6 = .ok (.newarray .int, 2) := by decide +kernel
theorem dX5_init_8 : decode cX5_init 8 = .ok (.putfield 9, 3) := by decide +kernel
theorem dX5_init_11 : decode cX5_init 11 = .ok (.aload_n 0, 1) := by decide +kernel
theorem dX5_init_12 : decode cX5_init 12 = .ok (.iconst 4, 1) := by decide +kernel
theorem dX5_init_13 : decode cX5_init 13 = .ok (.newarray .int, 2) := by decide +kernel
theorem dX5_init_15 : decode cX5_init 15 = .ok (.putfield 15, 3) := by decide +kernel
theorem dX5_init_18 : decode cX5_init 18 = .ok (.return_, 1) := by decide +kernel
theorem dX5_forget_0 : decode cX5_forget 0 = .ok (.aload_n 0, 1) := by decide +kernel
theorem dX5_forget_1 : decode cX5_forget 1 = .ok (.iconst 0, 1) := by decide +kernel
theorem dX5_forget_2 : decode cX5_forget 2 = .ok (.putfield 18, 3) := by decide +kernel
theorem dX5_forget_5 : decode cX5_forget 5 = .ok (.return_, 1) := by decide +kernel
theorem dX5_note_0 : decode cX5_note 0 = .ok (.aload_n 0, 1) := by decide +kernel
theorem dX5_note_1 : decode cX5_note 1 = .ok (.getfield 18, 3) := by decide +kernel
theorem dX5_note_4 : decode cX5_note 4 = .ok (.aload_n 0, 1) := by decide +kernel
theorem dX5_note_5 : decode cX5_note 5 = .ok (.getfield 9, 3) := by decide +kernel
theorem dX5_note_8 : decode cX5_note 8 = .ok (.arraylength, 1) := by decide +kernel
theorem dX5_note_9 : decode cX5_note 9 = .ok (.if_icmp .ge 33, 3) := by decide +kernel
theorem dX5_note_12 : decode cX5_note 12 = .ok (.aload_n 0, 1) := by decide +kernel
theorem dX5_note_13 : decode cX5_note 13 = .ok (.getfield 9, 3) := by decide +kernel
theorem dX5_note_16 : decode cX5_note 16 = .ok (.aload_n 0, 1) := by decide +kernel
theorem dX5_note_17 : decode cX5_note 17 = .ok (.getfield 18, 3) := by decide +kernel
theorem dX5_note_20 : decode cX5_note 20 = .ok (.iload_n 1, 1) := by decide +kernel
theorem dX5_note_21 : decode cX5_note 21 = .ok (.iastore, 1) := by decide +kernel
theorem dX5_note_22 : decode cX5_note 22 = .ok (.aload_n 0, 1) := by decide +kernel
theorem dX5_note_23 : decode cX5_note 23 = .ok (.getfield 15, 3) := by decide +kernel
theorem dX5_note_26 : decode cX5_note 26 = .ok (.aload_n 0, 1) := by decide +kernel
theorem dX5_note_27 : decode cX5_note 27 = .ok (.getfield 18, 3) := by decide +kernel
theorem dX5_note_30 : decode cX5_note 30 = .ok (.iload_n 2, 1) := by decide +kernel
theorem dX5_note_31 : decode cX5_note 31 = .ok (.iastore, 1) := by decide +kernel
theorem dX5_note_32 : decode cX5_note 32 = .ok (.aload_n 0, 1) := by decide +kernel
theorem dX5_note_33 : decode cX5_note 33 = .ok (.dup, 1) := by decide +kernel
theorem dX5_note_34 : decode cX5_note 34 = .ok (.getfield 18, 3) := by decide +kernel
theorem dX5_note_37 : decode cX5_note 37 = .ok (.iconst 1, 1) := by decide +kernel
theorem dX5_note_38 : decode cX5_note 38 = .ok (.iadd, 1) := by decide +kernel
theorem dX5_note_39 : decode cX5_note 39 = .ok (.putfield 18, 3) := by decide +kernel
theorem dX5_note_42 : decode cX5_note 42 = .ok (.return_, 1) := by decide +kernel
