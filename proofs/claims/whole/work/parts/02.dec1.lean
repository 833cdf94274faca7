theorem dX6_take_39 : decode cX6_take 39 = .ok (.iconst 4, 1) := by decide +kernel
theorem dX6_take_40 : decode cX6_take 40 = .ok (.if_icmp .ge 102, 3) := by decide +kernel
theorem dX6_take_43 : decode cX6_take 43 = .ok (.aload_n 1, 1) := by decide +kernel
theorem dX6_take_44 : decode cX6_take 44 = .ok (.iload_n 3, 1) := by decide +kernel
theorem dX6_take_45 : decode cX6_take 45 = .ok (.iload 4, 2) := by decide +kernel
theorem dX6_take_47 : decode cX6_take 47 = .ok (.invokevirtual 108, 3) := by decide +kernel
theorem dX6_take_50 : decode cX6_take 50 = .ok (.istore 5, 2) := by decide +kernel
theorem dX6_take_52 : decode cX6_take 52 = .ok (.iload 5, 2) := by decide +kernel
theorem dX6_take_54 : decode cX6_take 54 = .ok (.bipush (-6), 2) := by decide +kernel
theorem dX6_take_56 : decode cX6_take 56 = .ok (.if_icmp .eq 80, 3) := by decide +kernel
theorem dX6_take_59 : decode cX6_take 59 = .ok (.aload_n 0, 1) := by decide +kernel
theorem dX6_take_60 : decode cX6_take 60 = .ok (.getfield 29, 3) := by decide +kernel
theorem dX6_take_63 : decode cX6_take 63 = .ok (.iload 5, 2) := by decide +kernel
theorem dX6_take_65 : decode cX6_take 65 = .ok (.invokevirtual 74, 3) := by decide +kernel
theorem dX6_take_68 : decode cX6_take 68 = .ok (.bipush (-6), 2) := by decide +kernel
theorem dX6_take_70 : decode cX6_take 70 = .ok (.if_icmp .ne 66, 3) := by decide +kernel
theorem dX6_take_73 : decode cX6_take 73 = .ok (.aload_n 0, 1) := by decide +kernel
theorem dX6_take_74 : decode cX6_take 74 = .ok (.getfield 14, 3) := by decide +kernel
theorem dX6_take_77 : decode cX6_take 77 = .ok (.iload_n 3, 1) := by decide +kernel
theorem dX6_take_78 : decode cX6_take 78 = .ok (.invokevirtual 74, 3) := by decide +kernel
theorem dX6_take_81 : decode cX6_take 81 = .ok (.aload_n 0, 1) := by decide +kernel
theorem dX6_take_82 : decode cX6_take 82 = .ok (.getfield 35, 3) := by decide +kernel
theorem dX6_take_85 : decode cX6_take 85 = .ok (.iload 5, 2) := by decide +kernel
theorem dX6_take_87 : decode cX6_take 87 = .ok (.invokevirtual 74, 3) := by decide +kernel
theorem dX6_take_90 : decode cX6_take 90 = .ok (.if_icmp .ge 46, 3) := by decide +kernel
theorem dX6_take_93 : decode cX6_take 93 = .ok (.aload_n 0, 1) := by decide +kernel
theorem dX6_take_94 : decode cX6_take 94 = .ok (.getfield 35, 3) := by decide +kernel
theorem dX6_take_97 : decode cX6_take 97 = .ok (.iload 5, 2) := by decide +kernel
theorem dX6_take_99 : decode cX6_take 99 = .ok (.aload_n 0, 1) := by decide +kernel
theorem dX6_take_100 : decode cX6_take 100 = .ok (.getfield 14, 3) := by decide +kernel
theorem dX6_take_103 : decode cX6_take 103 = .ok (.iload_n 3, 1) := by decide +kernel
theorem dX6_take_104 : decode cX6_take 104 = .ok (.invokevirtual 74, 3) := by decide +kernel
theorem dX6_take_107 : decode cX6_take 107 = .ok (.invokevirtual 82, 3) := by decide +kernel
theorem dX6_take_110 : decode cX6_take 110 = .ok (.aload_n 2, 1) := by decide +kernel
theorem dX6_take_111 : decode cX6_take 111 = .ok (.aload_n 0, 1) := by decide +kernel
theorem dX6_take_112 : decode cX6_take 112 = .ok (.getfield 14, 3) := by decide +kernel
theorem dX6_take_115 : decode cX6_take 115 = .ok (.iload_n 3, 1) := by decide +kernel
theorem dX6_take_116 : decode cX6_take 116 = .ok (.invokevirtual 74, 3) := by decide +kernel
theorem dX6_take_119 : decode cX6_take 119 = .ok (.aload_n 1, 1) := by decide +kernel
theorem dX6_take_120 : decode cX6_take 120 = .ok (.getfield 71, 3) := by decide +kernel
theorem dX6_take_123 : decode cX6_take 123 = .ok (.iload 5, 2) := by decide +kernel
theorem dX6_take_125 : decode cX6_take 125 = .ok (.invokevirtual 74, 3) := by decide +kernel
theorem dX6_take_128 : decode cX6_take 128 = .ok (.invokestatic 112, 3) := by decide +kernel
theorem dX6_take_131 : decode cX6_take 131 = .ok (.iload 5, 2) := by decide +kernel
theorem dX6_take_133 : decode cX6_take 133 = .ok (.invokevirtual 117, 3) := by decide +kernel
theorem dX6_take_136 : decode cX6_take 136 = .ok (.iinc 4 1, 3) := by decide +kernel
theorem dX6_take_139 : decode cX6_take 139 = .ok (.goto (-102), 3) := by decide +kernel
theorem dX6_take_142 : decode cX6_take 142 = .ok (.return_, 1) := by decide +kernel
theorem dX6_firstTakenBeside_0 : decode cX6_firstTakenBeside 0 = .ok (.bipush (-6), 2) := by decide +kernel
theorem dX6_firstTakenBeside_2 : decode cX6_firstTakenBeside 2 = .ok (.istore_n 3, 1) := by decide +kernel
theorem dX6_firstTakenBeside_3 : decode cX6_firstTakenBeside 3 = .ok (.iconst 0, 1) := by decide +kernel
theorem dX6_firstTakenBeside_4 : decode cX6_firstTakenBeside 4 = .ok (.istore 4, 2) := by decide +kernel
theorem dX6_firstTakenBeside_6 : decode cX6_firstTakenBeside 6 = .ok (.iload 4, 2) := by decide +kernel
theorem dX6_firstTakenBeside_8 : decode cX6_firstTakenBeside 8 = .ok (.iconst 4, 1) := by decide +kernel
theorem dX6_firstTakenBeside_9 : decode cX6_firstTakenBeside 9 = .ok (.if_icmp .ge 88, 3) := by decide +kernel
theorem dX6_firstTakenBeside_12 : decode cX6_firstTakenBeside 12 = .ok (.aload_n 1, 1) := by decide +kernel
theorem dX6_firstTakenBeside_13 : decode cX6_firstTakenBeside 13 = .ok (.iload_n 2, 1) := by decide +kernel
theorem dX6_firstTakenBeside_14 : decode cX6_firstTakenBeside 14 = .ok (.iload 4, 2) := by decide +kernel
theorem dX6_firstTakenBeside_16 : decode cX6_firstTakenBeside 16 = .ok (.invokevirtual 108, 3) := by decide +kernel
theorem dX6_firstTakenBeside_19 : decode cX6_firstTakenBeside 19 = .ok (.istore 5, 2) := by decide +kernel
theorem dX6_firstTakenBeside_21 : decode cX6_firstTakenBeside 21 = .ok (.iload 5, 2) := by decide +kernel
theorem dX6_firstTakenBeside_23 : decode cX6_firstTakenBeside 23 = .ok (.bipush (-6), 2) := by decide +kernel
theorem dX6_firstTakenBeside_25 : decode cX6_firstTakenBeside 25 = .ok (.if_icmp .eq 66, 3) := by decide +kernel
theorem dX6_firstTakenBeside_28 : decode cX6_firstTakenBeside 28 = .ok (.aload_n 0, 1) := by decide +kernel
theorem dX6_firstTakenBeside_29 : decode cX6_firstTakenBeside 29 = .ok (.getfield 29, 3) := by decide +kernel
theorem dX6_firstTakenBeside_32 : decode cX6_firstTakenBeside 32 = .ok (.iload 5, 2) := by decide +kernel
theorem dX6_firstTakenBeside_34 : decode cX6_firstTakenBeside 34 = .ok (.invokevirtual 74, 3) := by decide +kernel
theorem dX6_firstTakenBeside_37 : decode cX6_firstTakenBeside 37 = .ok (.bipush (-6), 2) := by decide +kernel
theorem dX6_firstTakenBeside_39 : decode cX6_firstTakenBeside 39 = .ok (.if_icmp .eq 52, 3) := by decide +kernel
theorem dX6_firstTakenBeside_42 : decode cX6_firstTakenBeside 42 = .ok (.aload_n 0, 1) := by decide +kernel
theorem dX6_firstTakenBeside_43 : decode cX6_firstTakenBeside 43 = .ok (.getfield 14, 3) := by decide +kernel
theorem dX6_firstTakenBeside_46 : decode cX6_firstTakenBeside 46 = .ok (.iload 5, 2) := by decide +kernel
theorem dX6_firstTakenBeside_48 : decode cX6_firstTakenBeside 48 = .ok (.invokevirtual 74, 3) := by decide +kernel
theorem dX6_firstTakenBeside_51 : decode cX6_firstTakenBeside 51 = .ok (.aload_n 0, 1) := by decide +kernel
theorem dX6_firstTakenBeside_52 : decode cX6_firstTakenBeside 52 = .ok (.getfield 35, 3) := by decide +kernel
theorem dX6_firstTakenBeside_55 : decode cX6_firstTakenBeside 55 = .ok (.iload_n 2, 1) := by decide +kernel
theorem dX6_firstTakenBeside_56 : decode cX6_firstTakenBeside 56 = .ok (.invokevirtual 74, 3) := by decide +kernel
theorem dX6_firstTakenBeside_59 : decode cX6_firstTakenBeside 59 = .ok (.if_icmp .ne 32, 3) := by decide +kernel
theorem dX6_firstTakenBeside_62 : decode cX6_firstTakenBeside 62 = .ok (.iload_n 3, 1) := by decide +kernel
theorem dX6_firstTakenBeside_63 : decode cX6_firstTakenBeside 63 = .ok (.bipush (-6), 2) := by decide +kernel
theorem dX6_firstTakenBeside_65 : decode cX6_firstTakenBeside 65 = .ok (.if_icmp .eq 23, 3) := by decide +kernel
theorem dX6_firstTakenBeside_68 : decode cX6_firstTakenBeside 68 = .ok (.aload_n 0, 1) := by decide +kernel
theorem dX6_firstTakenBeside_69 : decode cX6_firstTakenBeside 69 = .ok (.getfield 29, 3) := by decide +kernel
theorem dX6_firstTakenBeside_72 : decode cX6_firstTakenBeside 72 = .ok (.iload 5, 2) := by decide +kernel
theorem dX6_firstTakenBeside_74 : decode cX6_firstTakenBeside 74 = .ok (.invokevirtual 74, 3) := by decide +kernel
theorem dX6_firstTakenBeside_77 : decode cX6_firstTakenBeside 77 = .ok (.aload_n 0, 1) := by decide +kernel
theorem dX6_firstTakenBeside_78 : decode cX6_firstTakenBeside 78 = .ok (.getfield 29, 3) := by decide +kernel
theorem dX6_firstTakenBeside_81 : decode cX6_firstTakenBeside 81 = .ok (.iload_n 3, 1) := by decide +kernel
theorem dX6_firstTakenBeside_82 : decode cX6_firstTakenBeside 82 = .ok (.invokevirtual 74, 3) := by decide +kernel
theorem dX6_firstTakenBeside_85 : decode cX6_firstTakenBeside 85 = .ok (.if_icmp .ge 6, 3) := by decide +kernel
theorem dX6_firstTakenBeside_88 : decode cX6_firstTakenBeside 88 = .ok (.iload 5, 2) := by decide +kernel
theorem dX6_firstTakenBeside_90 : decode cX6_firstTakenBeside 90 = .ok (.istore_n 3, 1) := by decide +kernel
theorem dX6_firstTakenBeside_91 : decode cX6_firstTakenBeside 91 = .ok (.iinc 4 1, 3) := by decide +kernel
theorem dX6_firstTakenBeside_94 : decode cX6_firstTakenBeside 94 = .ok (.goto (-88), 3) := by decide +kernel
theorem dX6_firstTakenBeside_97 : decode cX6_firstTakenBeside 97 = .ok (.iload_n 3, 1) := by decide +kernel
theorem dX6_firstTakenBeside_98 : decode cX6_firstTakenBeside 98 = .ok (.ireturn, 1) := by decide +kernel
theorem dX6_gatherFlow_0 : decode cX6_gatherFlow 0 = .ok (.aload_n 0, 1) := by decide +kernel
theorem dX6_gatherFlow_1 : decode cX6_gatherFlow 1 = .ok (.getfield 23, 3) := by decide +kernel
theorem dX6_gatherFlow_4 : decode cX6_gatherFlow 4 = .ok (.iconst 1, 1) := by decide +kernel
theorem dX6_gatherFlow_5 : decode cX6_gatherFlow 5 = .ok (.invokevirtual 50, 3) := by decide +kernel
theorem dX6_gatherFlow_8 : decode cX6_gatherFlow 8 = .ok (.aload_n 0, 1) := by decide +kernel
theorem dX6_gatherFlow_9 : decode cX6_gatherFlow 9 = .ok (.getfield 41, 3) := by decide +kernel
theorem dX6_gatherFlow_12 : decode cX6_gatherFlow 12 = .ok (.iconst 1, 1) := by decide +kernel
theorem dX6_gatherFlow_13 : decode cX6_gatherFlow 13 = .ok (.isub, 1) := by decide +kernel
theorem dX6_gatherFlow_14 : decode cX6_gatherFlow 14 = .ok (.istore_n 2, 1) := by decide +kernel
theorem dX6_gatherFlow_15 : decode cX6_gatherFlow 15 = .ok (.iload_n 2, 1) := by decide +kernel
theorem dX6_gatherFlow_16 : decode cX6_gatherFlow 16 = .ok (.ifCond .lt 54, 3) := by decide +kernel
theorem dX6_gatherFlow_19 : decode cX6_gatherFlow 19 = .ok (.aload_n 0, 1) := by decide +kernel
theorem dX6_gatherFlow_20 : decode cX6_gatherFlow 20 = .ok (.getfield 32, 3) := by decide +kernel
theorem dX6_gatherFlow_23 : decode cX6_gatherFlow 23 = .ok (.iload_n 2, 1) := by decide +kernel
theorem dX6_gatherFlow_24 : decode cX6_gatherFlow 24 = .ok (.invokevirtual 74, 3) := by decide +kernel
theorem dX6_gatherFlow_27 : decode cX6_gatherFlow 27 = .ok (.istore_n 3, 1) := by decide +kernel
theorem dX6_gatherFlow_28 : decode cX6_gatherFlow 28 = .ok (.aload_n 0, 1) := by decide +kernel
theorem dX6_gatherFlow_29 : decode cX6_gatherFlow 29 = .ok (.getfield 20, 3) := by decide +kernel
theorem dX6_gatherFlow_32 : decode cX6_gatherFlow 32 = .ok (.iload_n 3, 1) := by decide +kernel
theorem dX6_gatherFlow_33 : decode cX6_gatherFlow 33 = .ok (.invokevirtual 74, 3) := by decide +kernel
theorem dX6_gatherFlow_36 : decode cX6_gatherFlow 36 = .ok (.bipush (-6), 2) := by decide +kernel
theorem dX6_gatherFlow_38 : decode cX6_gatherFlow 38 = .ok (.if_icmp .eq 26, 3) := by decide +kernel
theorem dX6_gatherFlow_41 : decode cX6_gatherFlow 41 = .ok (.aload_n 0, 1) := by decide +kernel
theorem dX6_gatherFlow_42 : decode cX6_gatherFlow 42 = .ok (.getfield 23, 3) := by decide +kernel
theorem dX6_gatherFlow_45 : decode cX6_gatherFlow 45 = .ok (.aload_n 0, 1) := by decide +kernel
theorem dX6_gatherFlow_46 : decode cX6_gatherFlow 46 = .ok (.getfield 20, 3) := by decide +kernel
theorem dX6_gatherFlow_49 : decode cX6_gatherFlow 49 = .ok (.iload_n 3, 1) := by decide +kernel
theorem dX6_gatherFlow_50 : decode cX6_gatherFlow 50 = .ok (.invokevirtual 74, 3) := by decide +kernel
theorem dX6_gatherFlow_53 : decode cX6_gatherFlow 53 = .ok (.aload_n 0, 1) := by decide +kernel
theorem dX6_gatherFlow_54 : decode cX6_gatherFlow 54 = .ok (.getfield 23, 3) := by decide +kernel
theorem dX6_gatherFlow_57 : decode cX6_gatherFlow 57 = .ok (.iload_n 3, 1) := by decide +kernel
theorem dX6_gatherFlow_58 : decode cX6_gatherFlow 58 = .ok (.invokevirtual 74, 3) := by decide +kernel
theorem dX6_gatherFlow_61 : decode cX6_gatherFlow 61 = .ok (.invokevirtual 120, 3) := by decide +kernel
theorem dX6_gatherFlow_64 : decode cX6_gatherFlow 64 = .ok (.iinc 2 (-1), 3) := by decide +kernel
theorem dX6_gatherFlow_67 : decode cX6_gatherFlow 67 = .ok (.goto (-52), 3) := by decide +kernel
theorem dX6_gatherFlow_70 : decode cX6_gatherFlow 70 = .ok (.return_, 1) := by decide +kernel
theorem dX6_kindOf_0 : decode cX6_kindOf 0 = .ok (.iload_n 1, 1) := by decide +kernel
theorem dX6_kindOf_1 : decode cX6_kindOf 1 = .ok (.iload_n 3, 1) := by decide +kernel
theorem dX6_kindOf_2 : decode cX6_kindOf 2 = .ok (.if_icmp .ge 5, 3) := by decide +kernel
theorem dX6_kindOf_5 : decode cX6_kindOf 5 = .ok (.iconst 1, 1) := by decide +kernel
theorem dX6_kindOf_6 : decode cX6_kindOf 6 = .ok (.ireturn, 1) := by decide +kernel
theorem dX6_kindOf_7 : decode cX6_kindOf 7 = .ok (.aload_n 0, 1) := by decide +kernel
theorem dX6_kindOf_8 : decode cX6_kindOf 8 = .ok (.getfield 14, 3) := by decide +kernel
theorem dX6_kindOf_11 : decode cX6_kindOf 11 = .ok (.iload_n 2, 1) := by decide +kernel
theorem dX6_kindOf_12 : decode cX6_kindOf 12 = .ok (.invokevirtual 74, 3) := by decide +kernel
theorem dX6_kindOf_15 : decode cX6_kindOf 15 = .ok (.iload_n 1, 1) := by decide +kernel
theorem dX6_kindOf_16 : decode cX6_kindOf 16 = .ok (.if_icmp .le 5, 3) := by decide +kernel
theorem dX6_kindOf_19 : decode cX6_kindOf 19 = .ok (.iconst 2, 1) := by decide +kernel
theorem dX6_kindOf_20 : decode cX6_kindOf 20 = .ok (.ireturn, 1) := by decide +kernel
theorem dX6_kindOf_21 : decode cX6_kindOf 21 = .ok (.aload_n 0, 1) := by decide +kernel
theorem dX6_kindOf_22 : decode cX6_kindOf 22 = .ok (.getfield 23, 3) := by decide +kernel
theorem dX6_kindOf_25 : decode cX6_kindOf 25 = .ok (.iload_n 2, 1) := by decide +kernel
theorem dX6_kindOf_26 : decode cX6_kindOf 26 = .ok (.invokevirtual 74, 3) := by decide +kernel
theorem dX6_kindOf_29 : decode cX6_kindOf 29 = .ok (.iload 4, 2) := by decide +kernel
theorem dX6_kindOf_31 : decode cX6_kindOf 31 = .ok (.if_icmp .lt 7, 3) := by decide +kernel
theorem dX6_kindOf_34 : decode cX6_kindOf 34 = .ok (.iconst 4, 1) := by decide +kernel
theorem dX6_kindOf_35 : decode cX6_kindOf 35 = .ok (.goto 5, 3) := by decide +kernel
theorem dX6_kindOf_38 : decode cX6_kindOf 38 = .ok (.bipush 8, 2) := by decide +kernel
theorem dX6_kindOf_40 : decode cX6_kindOf 40 = .ok (.ireturn, 1) := by decide +kernel
theorem dX6_isPassable_0 : decode cX6_isPassable 0 = .ok (.aload_n 0, 1) := by decide +kernel
theorem dX6_isPassable_1 : decode cX6_isPassable 1 = .ok (.getfield 38, 3) := by decide +kernel
theorem dX6_isPassable_4 : decode cX6_isPassable 4 = .ok (.iload_n 1, 1) := by decide +kernel
theorem dX6_isPassable_5 : decode cX6_isPassable 5 = .ok (.invokevirtual 74, 3) := by decide +kernel
theorem dX6_isPassable_8 : decode cX6_isPassable 8 = .ok (.iconst 4, 1) := by decide +kernel
theorem dX6_isPassable_9 : decode cX6_isPassable 9 = .ok (.if_icmp .eq 16, 3) := by decide +kernel
theorem dX6_isPassable_12 : decode cX6_isPassable 12 = .ok (.aload_n 0, 1) := by decide +kernel
theorem dX6_isPassable_13 : decode cX6_isPassable 13 = .ok (.getfield 38, 3) := by decide +kernel
theorem dX6_isPassable_16 : decode cX6_isPassable 16 = .ok (.iload_n 1, 1) := by decide +kernel
theorem dX6_isPassable_17 : decode cX6_isPassable 17 = .ok (.invokevirtual 74, 3) := by decide +kernel
theorem dX6_isPassable_20 : decode cX6_isPassable 20 = .ok (.bipush 8, 2) := by decide +kernel
theorem dX6_isPassable_22 : decode cX6_isPassable 22 = .ok (.if_icmp .ne 7, 3) := by decide +kernel
theorem dX6_isPassable_25 : decode cX6_isPassable 25 = .ok (.iconst 1, 1) := by decide +kernel
theorem dX6_isPassable_26 : decode cX6_isPassable 26 = .ok (.goto 4, 3) := by decide +kernel
theorem dX6_isPassable_29 : decode cX6_isPassable 29 = .ok (.iconst 0, 1) := by decide +kernel
theorem dX6_isPassable_30 : decode cX6_isPassable 30 = .ok (.ireturn, 1) := by decide +kernel
theorem dX7_init_0 : decode cX7_init 0 = .ok (.aload_n 0, 1) := by decide +kernel
theorem dX7_init_1 : decode cX7_init 1 = .ok (.invokespecial 3, 3) := by decide +kernel
theorem dX7_init_4 : decode cX7_init 4 = .ok (.aload_n 0, 1) := by decide +kernel
theorem dX7_init_5 : decode cX7_init 5 = .ok (.new 9, 3) := by decide +kernel
theorem dX7_init_8 : decode cX7_init 8 = .ok (.dup, 1) := by decide +kernel
theorem dX7_init_9 : decode cX7_init 9 = .ok (.invokespecial 11, 3) := by decide +kernel
theorem dX7_init_12 : decode cX7_init 12 = .ok (.putfield 12, 3) := by decide +kernel
theorem dX7_init_15 : decode cX7_init 15 = .ok (.aload_n 0, 1) := by decide +kernel
theorem dX7_init_16 : decode cX7_init 16 = .ok (.new 16, 3) := by decide +kernel
theorem dX7_init_19 : decode cX7_init 19 = .ok (.dup, 1) := by decide +kernel
theorem dX7_init_20 : decode cX7_init 20 = .ok (.invokespecial 18, 3) := by decide +kernel
theorem dX7_init_23 : decode cX7_init 23 = .ok (.putfield 19, 3) := by decide +kernel
theorem dX7_init_26 : decode cX7_init 26 = .ok (.aload_n 0, 1) := by decide +kernel
theorem dX7_init_27 : decode cX7_init 27 = .ok (.new 23, 3) := by decide +kernel
theorem dX7_init_30 : decode cX7_init 30 = .ok (.dup, 1) := by decide +kernel
theorem dX7_init_31 : decode cX7_init 31 = .ok (.invokespecial 25, 3) := by decide +kernel
theorem dX7_init_34 : decode cX7_init 34 = .ok (.putfield 26, 3) := by decide +kernel
theorem dX7_init_37 : decode cX7_init 37 = .ok (.aload_n 0, 1) := by decide +kernel
theorem dX7_init_38 : decode cX7_init 38 = .ok (.new 30, 3) := by decide +kernel
theorem dX7_init_41 : decode cX7_init 41 = .ok (.dup, 1) := by decide +kernel
theorem dX7_init_42 : decode cX7_init 42 = .ok (.invokespecial 32, 3) := by decide +kernel
theorem dX7_init_45 : decode cX7_init 45 = .ok (.putfield 33, 3) := by decide +kernel
theorem dX7_init_48 : decode cX7_init 48 = .ok (.aload_n 0, 1) := by decide +kernel
theorem dX7_init_49 : decode cX7_init 49 = .ok (.new 37, 3) := by decide +kernel
theorem dX7_init_52 : decode cX7_init 52 = .ok (.dup, 1) := by decide +kernel
theorem dX7_init_53 : decode cX7_init 53 = .ok (.invokespecial 39, 3) := by decide +kernel
theorem dX7_init_56 : decode cX7_init 56 = .ok (.putfield 40, 3) := by decide +kernel
theorem dX7_init_59 : decode cX7_init 59 = .ok (.aload_n 0, 1) := by decide +kernel
theorem dX7_init_60 : decode cX7_init 60 = .ok (.new 44, 3) := by decide +kernel
theorem dX7_init_63 : decode cX7_init 63 = .ok (.dup, 1) := by decide +kernel
theorem dX7_init_64 : decode cX7_init 64 = .ok (.invokespecial 46, 3) := by decide +kernel
theorem dX7_init_67 : decode cX7_init 67 = .ok (.putfield 47, 3) := by decide +kernel
theorem dX7_init_70 : decode cX7_init 70 = .ok (.aload_n 0, 1) := by decide +kernel
theorem dX7_init_71 : decode cX7_init 71 = .ok (.new 51, 3) := by decide +kernel
theorem dX7_init_74 : decode cX7_init 74 = .ok (.dup, 1) := by decide +kernel
theorem dX7_init_75 : decode cX7_init 75 = .ok (.iconst 4, 1) := by decide +kernel
theorem dX7_init_76 : decode cX7_init 76 = .ok (.invokespecial 53, 3) := by decide +kernel
theorem dX7_init_79 : decode cX7_init 79 = .ok (.putfield 56, 3) := by decide +kernel
theorem dX7_init_82 : decode cX7_init 82 = .ok (.aload_n 0, 1) := by decide +kernel
theorem dX7_init_83 : decode cX7_init 83 = .ok (.iconst 0, 1) := by decide +kernel
theorem dX7_init_84 : decode cX7_init 84 = .ok (.putfield 60, 3) := by decide +kernel
theorem dX7_init_87 : decode cX7_init 87 = .ok (.aload_n 0, 1) := by decide +kernel
theorem dX7_init_88 : decode cX7_init 88 = .ok (.iconst 0, 1) := by decide +kernel
theorem dX7_init_89 : decode cX7_init 89 = .ok (.putfield 64, 3) := by decide +kernel
theorem dX7_init_92 : decode cX7_init 92 = .ok (.iconst 0, 1) := by decide +kernel
theorem dX7_init_93 : decode cX7_init 93 = .ok (.istore_n 1, 1) := by decide +kernel
theorem dX7_init_94 : decode cX7_init 94 = .ok (.iload_n 1, 1) := by decide +kernel
theorem dX7_init_95 : decode cX7_init 95 = .ok (.getstatic 67, 3) := by decide +kernel
theorem dX7_init_98 : decode cX7_init 98 = .ok (.arraylength, 1) := by decide +kernel
theorem dX7_init_99 : decode cX7_init 99 = .ok (.if_icmp .ge 22, 3) := by decide +kernel
theorem dX7_init_102 : decode cX7_init 102 = .ok (.aload_n 0, 1) := by decide +kernel
theorem dX7_init_103 : decode cX7_init 103 = .ok (.getfield 56, 3) := by decide +kernel
theorem dX7_init_106 : decode cX7_init 106 = .ok (.iload_n 1, 1) := by decide +kernel
theorem dX7_init_107 : decode cX7_init 107 = .ok (.getstatic 67, 3) := by decide +kernel
theorem dX7_init_110 : decode cX7_init 110 = .ok (.iload_n 1, 1) := by decide +kernel
theorem dX7_init_111 : decode cX7_init 111 = .ok (.iaload, 1) := by decide +kernel
theorem dX7_init_112 : decode cX7_init 112 = .ok (.invokevirtual 71, 3) := by decide +kernel
theorem dX7_init_115 : decode cX7_init 115 = .ok (.iinc 1 1, 3) := by decide +kernel
theorem dX7_init_118 : decode cX7_init 118 = .ok (.goto (-24), 3) := by decide +kernel
theorem dX7_init_121 : decode cX7_init 121 = .ok (.return_, 1) := by decide +kernel
theorem dX7_seed_0 : decode cX7_seed 0 = .ok (.aload_n 0, 1) := by decide +kernel
theorem dX7_seed_1 : decode cX7_seed 1 = .ok (.getfield 12, 3) := by decide +kernel
theorem dX7_seed_4 : decode cX7_seed 4 = .ok (.getfield 75, 3) := by decide +kernel
theorem dX7_seed_7 : decode cX7_seed 7 = .ok (.istore_n 2, 1) := by decide +kernel
theorem dX7_seed_8 : decode cX7_seed 8 = .ok (.aload_n 0, 1) := by decide +kernel
theorem dX7_seed_9 : decode cX7_seed 9 = .ok (.getfield 12, 3) := by decide +kernel
theorem dX7_seed_12 : decode cX7_seed 12 = .ok (.iload_n 1, 1) := by decide +kernel
theorem dX7_seed_13 : decode cX7_seed 13 = .ok (.putfield 75, 3) := by decide +kernel
theorem dX7_seed_16 : decode cX7_seed 16 = .ok (.aload_n 0, 1) := by decide +kernel
theorem dX7_seed_17 : decode cX7_seed 17 = .ok (.iconst 0, 1) := by decide +kernel
theorem dX7_seed_18 : decode cX7_seed 18 = .ok (.invokevirtual 78, 3) := by decide +kernel
theorem dX7_seed_21 : decode cX7_seed 21 = .ok (.iload_n 2, 1) := by decide +kernel
theorem dX7_seed_22 : decode cX7_seed 22 = .ok (.ireturn, 1) := by decide +kernel
theorem dX7_ground_0 : decode cX7_ground 0 = .ok (.iload_n 1, 1) := by decide +kernel
theorem dX7_ground_1 : decode cX7_ground 1 = .ok (.iconst 0, 1) := by decide +kernel
theorem dX7_ground_2 : decode cX7_ground 2 = .ok (.ldc 81, 2) := by decide +kernel
theorem dX7_ground_4 : decode cX7_ground 4 = .ok (.invokestatic 82, 3) := by decide +kernel
theorem dX7_ground_7 : decode cX7_ground 7 = .ok (.ifCond .eq 13, 3) := by decide +kernel
theorem dX7_ground_10 : decode cX7_ground 10 = .ok (.iload_n 2, 1) := by decide +kernel
theorem dX7_ground_11 : decode cX7_ground 11 = .ok (.iconst 0, 1) := by decide +kernel
theorem dX7_ground_12 : decode cX7_ground 12 = .ok (.ldc 81, 2) := by decide +kernel
theorem dX7_ground_14 : decode cX7_ground 14 = .ok (.invokestatic 82, 3) := by decide +kernel
theorem dX7_ground_17 : decode cX7_ground 17 = .ok (.ifCond .ne 6, 3) := by decide +kernel
theorem dX7_ground_20 : decode cX7_ground 20 = .ok (.bipush (-2), 2) := by decide +kernel
theorem dX7_ground_22 : decode cX7_ground 22 = .ok (.ireturn, 1) := by decide +kernel
theorem dX7_ground_23 : decode cX7_ground 23 = .ok (.aload_n 0, 1) := by decide +kernel
theorem dX7_ground_24 : decode cX7_ground 24 = .ok (.getfield 12, 3) := by decide +kernel
theorem dX7_ground_27 : decode cX7_ground 27 = .ok (.iload_n 1, 1) := by decide +kernel
theorem dX7_ground_28 : decode cX7_ground 28 = .ok (.iload_n 2, 1) := by decide +kernel
theorem dX7_ground_29 : decode cX7_ground 29 = .ok (.invokevirtual 86, 3) := by decide +kernel
theorem dX7_ground_32 : decode cX7_ground 32 = .ok (.ireturn, 1) := by decide +kernel
theorem dX7_size_0 : decode cX7_size 0 = .ok (.iload_n 1, 1) := by decide +kernel
theorem dX7_size_1 : decode cX7_size 1 = .ok (.iconst 4, 1) := by decide +kernel
theorem dX7_size_2 : decode cX7_size 2 = .ok (.bipush 24, 2) := by decide +kernel
theorem dX7_size_4 : decode cX7_size 4 = .ok (.invokestatic 82, 3) := by decide +kernel
theorem dX7_size_7 : decode cX7_size 7 = .ok (.ifCond .ne 6, 3) := by decide +kernel
theorem dX7_size_10 : decode cX7_size 10 = .ok (.bipush (-2), 2) := by decide +kernel
theorem dX7_size_12 : decode cX7_size 12 = .ok (.ireturn, 1) := by decide +kernel
theorem dX7_size_13 : decode cX7_size 13 = .ok (.aload_n 0, 1) := by decide +kernel
theorem dX7_size_14 : decode cX7_size 14 = .ok (.getfield 12, 3) := by decide +kernel
theorem dX7_size_17 : decode cX7_size 17 = .ok (.getfield 90, 3) := by decide +kernel
theorem dX7_size_20 : decode cX7_size 20 = .ok (.istore_n 2, 1) := by decide +kernel
theorem dX7_size_21 : decode cX7_size 21 = .ok (.aload_n 0, 1) := by decide +kernel
theorem dX7_size_22 : decode cX7_size 22 = .ok (.getfield 12, 3) := by decide +kernel
theorem dX7_size_25 : decode cX7_size 25 = .ok (.iload_n 1, 1) := by decide +kernel
theorem dX7_size_26 : decode cX7_size 26 = .ok (.putfield 90, 3) := by decide +kernel
theorem dX7_size_29 : decode cX7_size 29 = .ok (.aload_n 0, 1) := by decide +kernel
theorem dX7_size_30 : decode cX7_size 30 = .ok (.getfield 12, 3) := by decide +kernel
theorem dX7_size_33 : decode cX7_size 33 = .ok (.iload_n 1, 1) := by decide +kernel
theorem dX7_size_34 : decode cX7_size 34 = .ok (.iload_n 1, 1) := by decide +kernel
theorem dX7_size_35 : decode cX7_size 35 = .ok (.imul, 1) := by decide +kernel
theorem dX7_size_36 : decode cX7_size 36 = .ok (.putfield 93, 3) := by decide +kernel
theorem dX7_size_39 : decode cX7_size 39 = .ok (.aload_n 0, 1) := by decide +kernel
theorem dX7_size_40 : decode cX7_size 40 = .ok (.iconst 0, 1) := by decide +kernel
theorem dX7_size_41 : decode cX7_size 41 = .ok (.invokevirtual 78, 3) := by decide +kernel
theorem dX7_size_44 : decode cX7_size 44 = .ok (.iload_n 2, 1) := by decide +kernel
theorem dX7_size_45 : decode cX7_size 45 = .ok (.ireturn, 1) := by decide +kernel
theorem dX7_window_0 : decode cX7_window 0 = .ok (.iload_n 1, 1) := by decide +kernel
theorem dX7_window_1 : decode cX7_window 1 = .ok (.iconst 0, 1) := by decide +kernel
theorem dX7_window_2 : decode cX7_window 2 = .ok (.ldc 96, 2) := by decide +kernel
theorem dX7_window_4 : decode cX7_window 4 = .ok (.invokestatic 82, 3) := by decide +kernel
theorem dX7_window_7 : decode cX7_window 7 = .ok (.ifCond .eq 13, 3) := by decide +kernel
theorem dX7_window_10 : decode cX7_window 10 = .ok (.iload_n 2, 1) := by decide +kernel
theorem dX7_window_11 : decode cX7_window 11 = .ok (.iconst 0, 1) := by decide +kernel
theorem dX7_window_12 : decode cX7_window 12 = .ok (.ldc 96, 2) := by decide +kernel
theorem dX7_window_14 : decode cX7_window 14 = .ok (.invokestatic 82, 3) := by decide +kernel
theorem dX7_window_17 : decode cX7_window 17 = .ok (.ifCond .ne 6, 3) := by decide +kernel
theorem dX7_window_20 : decode cX7_window 20 = .ok (.bipush (-2), 2) := by decide +kernel
theorem dX7_window_22 : decode cX7_window 22 = .ok (.ireturn, 1) := by decide +kernel
theorem dX7_window_23 : decode cX7_window 23 = .ok (.aload_n 0, 1) := by decide +kernel
theorem dX7_window_24 : decode cX7_window 24 = .ok (.getfield 12, 3) := by decide +kernel
theorem dX7_window_27 : decode cX7_window 27 = .ok (.iload_n 1, 1) := by decide +kernel
theorem dX7_window_28 : decode cX7_window 28 = .ok (.putfield 97, 3) := by decide +kernel
theorem dX7_window_31 : decode cX7_window 31 = .ok (.aload_n 0, 1) := by decide +kernel
theorem dX7_window_32 : decode cX7_window 32 = .ok (.getfield 12, 3) := by decide +kernel
theorem dX7_window_35 : decode cX7_window 35 = .ok (.iload_n 2, 1) := by decide +kernel
theorem dX7_window_36 : decode cX7_window 36 = .ok (.putfield 100, 3) := by decide +kernel
theorem dX7_window_39 : decode cX7_window 39 = .ok (.aload_n 0, 1) := by decide +kernel
theorem dX7_window_40 : decode cX7_window 40 = .ok (.iconst 0, 1) := by decide +kernel
theorem dX7_window_41 : decode cX7_window 41 = .ok (.invokevirtual 78, 3) := by decide +kernel
theorem dX7_window_44 : decode cX7_window 44 = .ok (.iconst 1, 1) := by decide +kernel
theorem dX7_window_45 : decode cX7_window 45 = .ok (.ireturn, 1) := by decide +kernel
theorem dX7_change_0 : decode cX7_change 0 = .ok (.aload_n 0, 1) := by decide +kernel
theorem dX7_change_1 : decode cX7_change 1 = .ok (.getfield 12, 3) := by decide +kernel
theorem dX7_change_4 : decode cX7_change 4 = .ok (.iload_n 1, 1) := by decide +kernel
theorem dX7_change_5 : decode cX7_change 5 = .ok (.invokevirtual 103, 3) := by decide +kernel
theorem dX7_change_8 : decode cX7_change 8 = .ok (.ifCond .ne 5, 3) := by decide +kernel
theorem dX7_change_11 : decode cX7_change 11 = .ok (.iconst (-1), 1) := by decide +kernel
theorem dX7_change_12 : decode cX7_change 12 = .ok (.ireturn, 1) := by decide +kernel
theorem dX7_change_13 : decode cX7_change 13 = .ok (.iload_n 2, 1) := by decide +kernel
theorem dX7_change_14 : decode cX7_change 14 = .ok (.ifCond .eq 16, 3) := by decide +kernel
theorem dX7_change_17 : decode cX7_change 17 = .ok (.iload_n 2, 1) := by decide +kernel
theorem dX7_change_18 : decode cX7_change 18 = .ok (.sipush (-400), 3) := by decide +kernel
theorem dX7_change_21 : decode cX7_change 21 = .ok (.sipush 400, 3) := by decide +kernel
theorem dX7_change_24 : decode cX7_change 24 = .ok (.invokestatic 82, 3) := by decide +kernel
theorem dX7_change_27 : decode cX7_change 27 = .ok (.ifCond .ne 6, 3) := by decide +kernel
theorem dX7_change_30 : decode cX7_change 30 = .ok (.bipush (-2), 2) := by decide +kernel
theorem dX7_change_32 : decode cX7_change 32 = .ok (.ireturn, 1) := by decide +kernel
theorem dX7_change_33 : decode cX7_change 33 = .ok (.aload_n 0, 1) := by decide +kernel
theorem dX7_change_34 : decode cX7_change 34 = .ok (.getfield 12, 3) := by decide +kernel
theorem dX7_change_37 : decode cX7_change 37 = .ok (.getfield 107, 3) := by decide +kernel
theorem dX7_change_40 : decode cX7_change 40 = .ok (.bipush 30, 2) := by decide +kernel
theorem dX7_change_42 : decode cX7_change 42 = .ok (.if_icmp .lt 6, 3) := by decide +kernel
theorem dX7_change_45 : decode cX7_change 45 = .ok (.bipush (-4), 2) := by decide +kernel
theorem dX7_change_47 : decode cX7_change 47 = .ok (.ireturn, 1) := by decide +kernel
theorem dX7_change_48 : decode cX7_change 48 = .ok (.aload_n 0, 1) := by decide +kernel
theorem dX7_change_49 : decode cX7_change 49 = .ok (.iconst 1, 1) := by decide +kernel
theorem dX7_change_50 : decode cX7_change 50 = .ok (.invokevirtual 110, 3) := by decide +kernel
theorem dX7_change_53 : decode cX7_change 53 = .ok (.aload_n 0, 1) := by decide +kernel
theorem dX7_change_54 : decode cX7_change 54 = .ok (.getfield 12, 3) := by decide +kernel
theorem dX7_change_57 : decode cX7_change 57 = .ok (.iload_n 1, 1) := by decide +kernel
theorem dX7_change_58 : decode cX7_change 58 = .ok (.iload_n 2, 1) := by decide +kernel
theorem dX7_change_59 : decode cX7_change 59 = .ok (.invokevirtual 113, 3) := by decide +kernel
theorem dX7_change_62 : decode cX7_change 62 = .ok (.aload_n 0, 1) := by decide +kernel
theorem dX7_change_63 : decode cX7_change 63 = .ok (.iconst 1, 1) := by decide +kernel
theorem dX7_change_64 : decode cX7_change 64 = .ok (.invokevirtual 78, 3) := by decide +kernel
theorem dX7_change_67 : decode cX7_change 67 = .ok (.aload_n 0, 1) := by decide +kernel
theorem dX7_change_68 : decode cX7_change 68 = .ok (.getfield 12, 3) := by decide +kernel
theorem dX7_change_71 : decode cX7_change 71 = .ok (.getfield 107, 3) := by decide +kernel
theorem dX7_change_74 : decode cX7_change 74 = .ok (.ireturn, 1) := by decide +kernel
theorem dX7_changed_0 : decode cX7_changed 0 = .ok (.iload_n 1, 1) := by decide +kernel
theorem dX7_changed_1 : decode cX7_changed 1 = .ok (.iconst 0, 1) := by decide +kernel
theorem dX7_changed_2 : decode cX7_changed 2 = .ok (.aload_n 0, 1) := by decide +kernel
theorem dX7_changed_3 : decode cX7_changed 3 = .ok (.getfield 12, 3) := by decide +kernel
theorem dX7_changed_6 : decode cX7_changed 6 = .ok (.getfield 107, 3) := by decide +kernel
theorem dX7_changed_9 : decode cX7_changed 9 = .ok (.iconst 1, 1) := by decide +kernel
theorem dX7_changed_10 : decode cX7_changed 10 = .ok (.isub, 1) := by decide +kernel
theorem dX7_changed_11 : decode cX7_changed 11 = .ok (.invokestatic 82, 3) := by decide +kernel
theorem dX7_changed_14 : decode cX7_changed 14 = .ok (.ifCond .ne 7, 3) := by decide +kernel
theorem dX7_changed_17 : decode cX7_changed 17 = .ok (.sipush (-1001), 3) := by decide +kernel
theorem dX7_changed_20 : decode cX7_changed 20 = .ok (.ireturn, 1) := by decide +kernel
theorem dX7_changed_21 : decode cX7_changed 21 = .ok (.iload_n 2, 1) := by decide +kernel
theorem dX7_changed_22 : decode cX7_changed 22 = .ok (.tableswitch 62 0 2 #[26, 38, 50], 26) := by decide +kernel
theorem dX7_changed_48 : decode cX7_changed 48 = .ok (.aload_n 0, 1) := by decide +kernel
theorem dX7_changed_49 : decode cX7_changed 49 = .ok (.getfield 12, 3) := by decide +kernel
theorem dX7_changed_52 : decode cX7_changed 52 = .ok (.getfield 116, 3) := by decide +kernel
theorem dX7_changed_55 : decode cX7_changed 55 = .ok (.iload_n 1, 1) := by decide +kernel
theorem dX7_changed_56 : decode cX7_changed 56 = .ok (.invokevirtual 119, 3) := by decide +kernel
theorem dX7_changed_59 : decode cX7_changed 59 = .ok (.ireturn, 1) := by decide +kernel
theorem dX7_changed_60 : decode cX7_changed 60 = .ok (.aload_n 0, 1) := by decide +kernel
theorem dX7_changed_61 : decode cX7_changed 61 = .ok (.getfield 12, 3) := by decide +kernel
theorem dX7_changed_64 : decode cX7_changed 64 = .ok (.getfield 123, 3) := by decide +kernel
theorem dX7_changed_67 : decode cX7_changed 67 = .ok (.iload_n 1, 1) := by decide +kernel
theorem dX7_changed_68 : decode cX7_changed 68 = .ok (.invokevirtual 119, 3) := by decide +kernel
theorem dX7_changed_71 : decode cX7_changed 71 = .ok (.ireturn, 1) := by decide +kernel
theorem dX7_changed_72 : decode cX7_changed 72 = .ok (.aload_n 0, 1) := by decide +kernel
theorem dX7_changed_73 : decode cX7_changed 73 = .ok (.getfield 12, 3) := by decide +kernel
theorem dX7_changed_76 : decode cX7_changed 76 = .ok (.getfield 126, 3) := by decide +kernel
theorem dX7_changed_79 : decode cX7_changed 79 = .ok (.iload_n 1, 1) := by decide +kernel
theorem dX7_changed_80 : decode cX7_changed 80 = .ok (.invokevirtual 119, 3) := by decide +kernel
theorem dX7_changed_83 : decode cX7_changed 83 = .ok (.ireturn, 1) := by decide +kernel
theorem dX7_changed_84 : decode cX7_changed 84 = .ok (.sipush (-1002), 3) := by decide +kernel
theorem dX7_changed_87 : decode cX7_changed 87 = .ok (.ireturn, 1) := by decide +kernel
theorem dX7_undo_0 : decode cX7_undo 0 = .ok (.aload_n 0, 1) := by decide +kernel
theorem dX7_undo_1 : decode cX7_undo 1 = .ok (.getfield 12, 3) := by decide +kernel
theorem dX7_undo_4 : decode cX7_undo 4 = .ok (.getfield 107, 3) := by decide +kernel
theorem dX7_undo_7 : decode cX7_undo 7 = .ok (.ifCond .gt 5, 3) := by decide +kernel
theorem dX7_undo_10 : decode cX7_undo 10 = .ok (.iconst (-1), 1) := by decide +kernel
theorem dX7_undo_11 : decode cX7_undo 11 = .ok (.ireturn, 1) := by decide +kernel
theorem dX7_undo_12 : decode cX7_undo 12 = .ok (.aload_n 0, 1) := by decide +kernel
theorem dX7_undo_13 : decode cX7_undo 13 = .ok (.getfield 12, 3) := by decide +kernel
theorem dX7_undo_16 : decode cX7_undo 16 = .ok (.dup, 1) := by decide +kernel
theorem dX7_undo_17 : decode cX7_undo 17 = .ok (.getfield 107, 3) := by decide +kernel
theorem dX7_undo_20 : decode cX7_undo 20 = .ok (.iconst 1, 1) := by decide +kernel
theorem dX7_undo_21 : decode cX7_undo 21 = .ok (.isub, 1) := by decide +kernel
theorem dX7_undo_22 : decode cX7_undo 22 = .ok (.putfield 107, 3) := by decide +kernel
theorem dX7_undo_25 : decode cX7_undo 25 = .ok (.aload_n 0, 1) := by decide +kernel
theorem dX7_undo_26 : decode cX7_undo 26 = .ok (.iconst 1, 1) := by decide +kernel
theorem dX7_undo_27 : decode cX7_undo 27 = .ok (.invokevirtual 78, 3) := by decide +kernel
theorem dX7_undo_30 : decode cX7_undo 30 = .ok (.aload_n 0, 1) := by decide +kernel
theorem dX7_undo_31 : decode cX7_undo 31 = .ok (.getfield 12, 3) := by decide +kernel
theorem dX7_undo_34 : decode cX7_undo 34 = .ok (.getfield 107, 3) := by decide +kernel
theorem dX7_undo_37 : decode cX7_undo 37 = .ok (.ireturn, 1) := by decide +kernel
theorem dX7_rule_0 : decode cX7_rule 0 = .ok (.iload_n 1, 1) := by decide +kernel
theorem dX7_rule_1 : decode cX7_rule 1 = .ok (.iconst 0, 1) := by decide +kernel
theorem dX7_rule_2 : decode cX7_rule 2 = .ok (.iconst 3, 1) := by decide +kernel
theorem dX7_rule_3 : decode cX7_rule 3 = .ok (.invokestatic 82, 3) := by decide +kernel
theorem dX7_rule_6 : decode cX7_rule 6 = .ok (.ifCond .eq 20, 3) := by decide +kernel
theorem dX7_rule_9 : decode cX7_rule 9 = .ok (.iload_n 2, 1) := by decide +kernel
theorem dX7_rule_10 : decode cX7_rule 10 = .ok (.getstatic 129, 3) := by decide +kernel
theorem dX7_rule_13 : decode cX7_rule 13 = .ok (.iload_n 1, 1) := by decide +kernel
theorem dX7_rule_14 : decode cX7_rule 14 = .ok (.iaload, 1) := by decide +kernel
theorem dX7_rule_15 : decode cX7_rule 15 = .ok (.getstatic 132, 3) := by decide +kernel
theorem dX7_rule_18 : decode cX7_rule 18 = .ok (.iload_n 1, 1) := by decide +kernel
theorem dX7_rule_19 : decode cX7_rule 19 = .ok (.iaload, 1) := by decide +kernel
theorem dX7_rule_20 : decode cX7_rule 20 = .ok (.invokestatic 82, 3) := by decide +kernel
theorem dX7_rule_23 : decode cX7_rule 23 = .ok (.ifCond .ne 6, 3) := by decide +kernel
theorem dX7_rule_26 : decode cX7_rule 26 = .ok (.bipush (-2), 2) := by decide +kernel
theorem dX7_rule_28 : decode cX7_rule 28 = .ok (.ireturn, 1) := by decide +kernel
theorem dX7_rule_29 : decode cX7_rule 29 = .ok (.aload_n 0, 1) := by decide +kernel
theorem dX7_rule_30 : decode cX7_rule 30 = .ok (.getfield 56, 3) := by decide +kernel
theorem dX7_rule_33 : decode cX7_rule 33 = .ok (.iload_n 1, 1) := by decide +kernel
theorem dX7_rule_34 : decode cX7_rule 34 = .ok (.invokevirtual 119, 3) := by decide +kernel
theorem dX7_rule_37 : decode cX7_rule 37 = .ok (.istore_n 3, 1) := by decide +kernel
theorem dX7_rule_38 : decode cX7_rule 38 = .ok (.aload_n 0, 1) := by decide +kernel
theorem dX7_rule_39 : decode cX7_rule 39 = .ok (.getfield 56, 3) := by decide +kernel
theorem dX7_rule_42 : decode cX7_rule 42 = .ok (.iload_n 1, 1) := by decide +kernel
theorem dX7_rule_43 : decode cX7_rule 43 = .ok (.iload_n 2, 1) := by decide +kernel
theorem dX7_rule_44 : decode cX7_rule 44 = .ok (.invokevirtual 71, 3) := by decide +kernel
theorem dX7_rule_47 : decode cX7_rule 47 = .ok (.aload_n 0, 1) := by decide +kernel
theorem dX7_rule_48 : decode cX7_rule 48 = .ok (.iload_n 1, 1) := by decide +kernel
theorem dX7_rule_49 : decode cX7_rule 49 = .ok (.invokestatic 135, 3) := by decide +kernel
theorem dX7_rule_52 : decode cX7_rule 52 = .ok (.invokevirtual 78, 3) := by decide +kernel
theorem dX7_rule_55 : decode cX7_rule 55 = .ok (.iload_n 3, 1) := by decide +kernel
theorem dX7_rule_56 : decode cX7_rule 56 = .ok (.ireturn, 1) := by decide +kernel
theorem dX7_about_0 : decode cX7_about 0 = .ok (.aload_n 0, 1) := by decide +kernel
theorem dX7_about_1 : decode cX7_about 1 = .ok (.getfield 12, 3) := by decide +kernel
theorem dX7_about_4 : decode cX7_about 4 = .ok (.iload_n 1, 1) := by decide +kernel
theorem dX7_about_5 : decode cX7_about 5 = .ok (.invokevirtual 103, 3) := by decide +kernel
theorem dX7_about_8 : decode cX7_about 8 = .ok (.ifCond .ne 5, 3) := by decide +kernel
theorem dX7_about_11 : decode cX7_about 11 = .ok (.iconst (-1), 1) := by decide +kernel
theorem dX7_about_12 : decode cX7_about 12 = .ok (.ireturn, 1) := by decide +kernel
theorem dX7_about_13 : decode cX7_about 13 = .ok (.aload_n 0, 1) := by decide +kernel
theorem dX7_about_14 : decode cX7_about 14 = .ok (.iconst 3, 1) := by decide +kernel
theorem dX7_about_15 : decode cX7_about 15 = .ok (.invokevirtual 110, 3) := by decide +kernel
theorem dX7_about_18 : decode cX7_about 18 = .ok (.iload_n 2, 1) := by decide +kernel
theorem dX7_about_19 : decode cX7_about 19 = .ok (.tableswitch 125 0 6 #[41, 53, 65, 77, 89, 101, 113], 41) := by decide +kernel
theorem dX7_about_60 : decode cX7_about 60 = .ok (.aload_n 0, 1) := by decide +kernel
theorem dX7_about_61 : decode cX7_about 61 = .ok (.getfield 12, 3) := by decide +kernel
theorem dX7_about_64 : decode cX7_about 64 = .ok (.getfield 138, 3) := by decide +kernel
theorem dX7_about_67 : decode cX7_about 67 = .ok (.iload_n 1, 1) := by decide +kernel
theorem dX7_about_68 : decode cX7_about 68 = .ok (.invokevirtual 119, 3) := by decide +kernel
theorem dX7_about_71 : decode cX7_about 71 = .ok (.ireturn, 1) := by decide +kernel
theorem dX7_about_72 : decode cX7_about 72 = .ok (.aload_n 0, 1) := by decide +kernel
theorem dX7_about_73 : decode cX7_about 73 = .ok (.getfield 19, 3) := by decide +kernel
theorem dX7_about_76 : decode cX7_about 76 = .ok (.getfield 141, 3) := by decide +kernel
theorem dX7_about_79 : decode cX7_about 79 = .ok (.iload_n 1, 1) := by decide +kernel
theorem dX7_about_80 : decode cX7_about 80 = .ok (.invokevirtual 119, 3) := by decide +kernel
theorem dX7_about_83 : decode cX7_about 83 = .ok (.ireturn, 1) := by decide +kernel
theorem dX7_about_84 : decode cX7_about 84 = .ok (.aload_n 0, 1) := by decide +kernel
theorem dX7_about_85 : decode cX7_about 85 = .ok (.getfield 19, 3) := by decide +kernel
theorem dX7_about_88 : decode cX7_about 88 = .ok (.getfield 144, 3) := by decide +kernel
theorem dX7_about_91 : decode cX7_about 91 = .ok (.iload_n 1, 1) := by decide +kernel
theorem dX7_about_92 : decode cX7_about 92 = .ok (.invokevirtual 119, 3) := by decide +kernel
theorem dX7_about_95 : decode cX7_about 95 = .ok (.ireturn, 1) := by decide +kernel
theorem dX7_about_96 : decode cX7_about 96 = .ok (.aload_n 0, 1) := by decide +kernel
theorem dX7_about_97 : decode cX7_about 97 = .ok (.getfield 19, 3) := by decide +kernel
theorem dX7_about_100 : decode cX7_about 100 = .ok (.getfield 147, 3) := by decide +kernel
theorem dX7_about_103 : decode cX7_about 103 = .ok (.iload_n 1, 1) := by decide +kernel
theorem dX7_about_104 : decode cX7_about 104 = .ok (.invokevirtual 119, 3) := by decide +kernel
theorem dX7_about_107 : decode cX7_about 107 = .ok (.ireturn, 1) := by decide +kernel
theorem dX7_about_108 : decode cX7_about 108 = .ok (.aload_n 0, 1) := by decide +kernel
theorem dX7_about_109 : decode cX7_about 109 = .ok (.getfield 19, 3) := by decide +kernel
theorem dX7_about_112 : decode cX7_about 112 = .ok (.getfield 150, 3) := by decide +kernel
theorem dX7_about_115 : decode cX7_about 115 = .ok (.iload_n 1, 1) := by decide +kernel
theorem dX7_about_116 : decode cX7_about 116 = .ok (.invokevirtual 119, 3) := by decide +kernel
theorem dX7_about_119 : decode cX7_about 119 = .ok (.ireturn, 1) := by decide +kernel
theorem dX7_about_120 : decode cX7_about 120 = .ok (.aload_n 0, 1) := by decide +kernel
theorem dX7_about_121 : decode cX7_about 121 = .ok (.getfield 19, 3) := by decide +kernel
theorem dX7_about_124 : decode cX7_about 124 = .ok (.getfield 153, 3) := by decide +kernel
theorem dX7_about_127 : decode cX7_about 127 = .ok (.iload_n 1, 1) := by decide +kernel
theorem dX7_about_128 : decode cX7_about 128 = .ok (.invokevirtual 119, 3) := by decide +kernel
theorem dX7_about_131 : decode cX7_about 131 = .ok (.ireturn, 1) := by decide +kernel
theorem dX7_about_132 : decode cX7_about 132 = .ok (.aload_n 0, 1) := by decide +kernel
theorem dX7_about_133 : decode cX7_about 133 = .ok (.getfield 33, 3) := by decide +kernel
theorem dX7_about_136 : decode cX7_about 136 = .ok (.getfield 156, 3) := by decide +kernel
theorem dX7_about_139 : decode cX7_about 139 = .ok (.iload_n 1, 1) := by decide +kernel
theorem dX7_about_140 : decode cX7_about 140 = .ok (.invokevirtual 119, 3) := by decide +kernel
theorem dX7_about_143 : decode cX7_about 143 = .ok (.ireturn, 1) := by decide +kernel
theorem dX7_about_144 : decode cX7_about 144 = .ok (.bipush (-2), 2) := by decide +kernel
theorem dX7_about_146 : decode cX7_about 146 = .ok (.ireturn, 1) := by decide +kernel
theorem dX7_is_0 : decode cX7_is 0 = .ok (.aload_n 0, 1) := by decide +kernel
theorem dX7_is_1 : decode cX7_is 1 = .ok (.getfield 12, 3) := by decide +kernel
theorem dX7_is_4 : decode cX7_is 4 = .ok (.iload_n 1, 1) := by decide +kernel
theorem dX7_is_5 : decode cX7_is 5 = .ok (.invokevirtual 103, 3) := by decide +kernel
theorem dX7_is_8 : decode cX7_is 8 = .ok (.ifCond .ne 5, 3) := by decide +kernel
theorem dX7_is_11 : decode cX7_is 11 = .ok (.iconst (-1), 1) := by decide +kernel
theorem dX7_is_12 : decode cX7_is 12 = .ok (.ireturn, 1) := by decide +kernel
theorem dX7_is_13 : decode cX7_is 13 = .ok (.aload_n 0, 1) := by decide +kernel
theorem dX7_is_14 : decode cX7_is 14 = .ok (.iconst 4, 1) := by decide +kernel
theorem dX7_is_15 : decode cX7_is 15 = .ok (.invokevirtual 110, 3) := by decide +kernel
theorem dX7_is_18 : decode cX7_is 18 = .ok (.aload_n 0, 1) := by decide +kernel
theorem dX7_is_19 : decode cX7_is 19 = .ok (.iload_n 1, 1) := by decide +kernel
theorem dX7_is_20 : decode cX7_is 20 = .ok (.invokevirtual 159, 3) := by decide +kernel
theorem dX7_is_23 : decode cX7_is 23 = .ok (.ireturn, 1) := by decide +kernel
theorem dX7_many_0 : decode cX7_many 0 = .ok (.iload_n 1, 1) := by decide +kernel
theorem dX7_many_1 : decode cX7_many 1 = .ok (.iconst 1, 1) := by decide +kernel
theorem dX7_many_2 : decode cX7_many 2 = .ok (.bipush 32, 2) := by decide +kernel
theorem dX7_many_4 : decode cX7_many 4 = .ok (.invokestatic 82, 3) := by decide +kernel
theorem dX7_many_7 : decode cX7_many 7 = .ok (.ifCond .eq 11, 3) := by decide +kernel
theorem dX7_many_10 : decode cX7_many 10 = .ok (.iload_n 1, 1) := by decide +kernel
theorem dX7_many_11 : decode cX7_many 11 = .ok (.invokestatic 162, 3) := by decide +kernel
theorem dX7_many_14 : decode cX7_many 14 = .ok (.iconst 1, 1) := by decide +kernel
theorem dX7_many_15 : decode cX7_many 15 = .ok (.if_icmp .eq 6, 3) := by decide +kernel
theorem dX7_many_18 : decode cX7_many 18 = .ok (.bipush (-2), 2) := by decide +kernel
theorem dX7_many_20 : decode cX7_many 20 = .ok (.ireturn, 1) := by decide +kernel
theorem dX7_many_21 : decode cX7_many 21 = .ok (.aload_n 0, 1) := by decide +kernel
theorem dX7_many_22 : decode cX7_many 22 = .ok (.iconst 4, 1) := by decide +kernel
theorem dX7_many_23 : decode cX7_many 23 = .ok (.invokevirtual 110, 3) := by decide +kernel
theorem dX7_many_26 : decode cX7_many 26 = .ok (.iconst 0, 1) := by decide +kernel
theorem dX7_many_27 : decode cX7_many 27 = .ok (.istore_n 2, 1) := by decide +kernel
theorem dX7_many_28 : decode cX7_many 28 = .ok (.iconst 0, 1) := by decide +kernel
theorem dX7_many_29 : decode cX7_many 29 = .ok (.istore_n 3, 1) := by decide +kernel
theorem dX7_many_30 : decode cX7_many 30 = .ok (.iload_n 3, 1) := by decide +kernel
theorem dX7_many_31 : decode cX7_many 31 = .ok (.aload_n 0, 1) := by decide +kernel
theorem dX7_many_32 : decode cX7_many 32 = .ok (.getfield 12, 3) := by decide +kernel
theorem dX7_many_35 : decode cX7_many 35 = .ok (.getfield 93, 3) := by decide +kernel
theorem dX7_many_38 : decode cX7_many 38 = .ok (.if_icmp .ge 22, 3) := by decide +kernel
theorem dX7_many_41 : decode cX7_many 41 = .ok (.aload_n 0, 1) := by decide +kernel
theorem dX7_many_42 : decode cX7_many 42 = .ok (.iload_n 3, 1) := by decide +kernel
theorem dX7_many_43 : decode cX7_many 43 = .ok (.invokevirtual 159, 3) := by decide +kernel
theorem dX7_many_46 : decode cX7_many 46 = .ok (.iload_n 1, 1) := by decide +kernel
theorem dX7_many_47 : decode cX7_many 47 = .ok (.iand, 1) := by decide +kernel
theorem dX7_many_48 : decode cX7_many 48 = .ok (.ifCond .eq 6, 3) := by decide +kernel
theorem dX7_many_51 : decode cX7_many 51 = .ok (.iinc 2 1, 3) := by decide +kernel
theorem dX7_many_54 : decode cX7_many 54 = .ok (.iinc 3 1, 3) := by decide +kernel
theorem dX7_many_57 : decode cX7_many 57 = .ok (.goto (-27), 3) := by decide +kernel
theorem dX7_many_60 : decode cX7_many 60 = .ok (.iload_n 2, 1) := by decide +kernel
theorem dX7_many_61 : decode cX7_many 61 = .ok (.ireturn, 1) := by decide +kernel
theorem dX7_lakes_0 : decode cX7_lakes 0 = .ok (.aload_n 0, 1) := by decide +kernel
theorem dX7_lakes_1 : decode cX7_lakes 1 = .ok (.iconst 2, 1) := by decide +kernel
theorem dX7_lakes_2 : decode cX7_lakes 2 = .ok (.invokevirtual 110, 3) := by decide +kernel
theorem dX7_lakes_5 : decode cX7_lakes 5 = .ok (.aload_n 0, 1) := by decide +kernel
theorem dX7_lakes_6 : decode cX7_lakes 6 = .ok (.getfield 26, 3) := by decide +kernel
theorem dX7_lakes_9 : decode cX7_lakes 9 = .ok (.getfield 167, 3) := by decide +kernel
theorem dX7_lakes_12 : decode cX7_lakes 12 = .ok (.ireturn, 1) := by decide +kernel
theorem dX7_lake_0 : decode cX7_lake 0 = .ok (.aload_n 0, 1) := by decide +kernel
theorem dX7_lake_1 : decode cX7_lake 1 = .ok (.getfield 12, 3) := by decide +kernel
theorem dX7_lake_4 : decode cX7_lake 4 = .ok (.iload_n 1, 1) := by decide +kernel
theorem dX7_lake_5 : decode cX7_lake 5 = .ok (.invokevirtual 103, 3) := by decide +kernel
theorem dX7_lake_8 : decode cX7_lake 8 = .ok (.ifCond .ne 5, 3) := by decide +kernel
theorem dX7_lake_11 : decode cX7_lake 11 = .ok (.iconst (-1), 1) := by decide +kernel
theorem dX7_lake_12 : decode cX7_lake 12 = .ok (.ireturn, 1) := by decide +kernel
theorem dX7_lake_13 : decode cX7_lake 13 = .ok (.aload_n 0, 1) := by decide +kernel
theorem dX7_lake_14 : decode cX7_lake 14 = .ok (.iconst 2, 1) := by decide +kernel
theorem dX7_lake_15 : decode cX7_lake 15 = .ok (.invokevirtual 110, 3) := by decide +kernel
theorem dX7_lake_18 : decode cX7_lake 18 = .ok (.aload_n 0, 1) := by decide +kernel
theorem dX7_lake_19 : decode cX7_lake 19 = .ok (.getfield 26, 3) := by decide +kernel
theorem dX7_lake_22 : decode cX7_lake 22 = .ok (.iload_n 1, 1) := by decide +kernel
theorem dX7_lake_23 : decode cX7_lake 23 = .ok (.invokevirtual 170, 3) := by decide +kernel
theorem dX7_lake_26 : decode cX7_lake 26 = .ok (.ireturn, 1) := by decide +kernel
theorem dX7_towns_0 : decode cX7_towns 0 = .ok (.iload_n 1, 1) := by decide +kernel
theorem dX7_towns_1 : decode cX7_towns 1 = .ok (.iconst 0, 1) := by decide +kernel
theorem dX7_towns_2 : decode cX7_towns 2 = .ok (.bipush 6, 2) := by decide +kernel
theorem dX7_towns_4 : decode cX7_towns 4 = .ok (.invokestatic 82, 3) := by decide +kernel
theorem dX7_towns_7 : decode cX7_towns 7 = .ok (.ifCond .ne 6, 3) := by decide +kernel
theorem dX7_towns_10 : decode cX7_towns 10 = .ok (.bipush (-2), 2) := by decide +kernel
theorem dX7_towns_12 : decode cX7_towns 12 = .ok (.ireturn, 1) := by decide +kernel
theorem dX7_towns_13 : decode cX7_towns 13 = .ok (.aload_n 0, 1) := by decide +kernel
theorem dX7_towns_14 : decode cX7_towns 14 = .ok (.iload_n 1, 1) := by decide +kernel
theorem dX7_towns_15 : decode cX7_towns 15 = .ok (.putfield 60, 3) := by decide +kernel
theorem dX7_towns_18 : decode cX7_towns 18 = .ok (.aload_n 0, 1) := by decide +kernel
theorem dX7_towns_19 : decode cX7_towns 19 = .ok (.iconst 2, 1) := by decide +kernel
theorem dX7_towns_20 : decode cX7_towns 20 = .ok (.invokevirtual 78, 3) := by decide +kernel
theorem dX7_towns_23 : decode cX7_towns 23 = .ok (.aload_n 0, 1) := by decide +kernel
theorem dX7_towns_24 : decode cX7_towns 24 = .ok (.iconst 3, 1) := by decide +kernel
theorem dX7_towns_25 : decode cX7_towns 25 = .ok (.invokevirtual 110, 3) := by decide +kernel
theorem dX7_towns_28 : decode cX7_towns 28 = .ok (.aload_n 0, 1) := by decide +kernel
theorem dX7_towns_29 : decode cX7_towns 29 = .ok (.getfield 33, 3) := by decide +kernel
theorem dX7_towns_32 : decode cX7_towns 32 = .ok (.getfield 173, 3) := by decide +kernel
theorem dX7_towns_35 : decode cX7_towns 35 = .ok (.ireturn, 1) := by decide +kernel
theorem dX7_town_0 : decode cX7_town 0 = .ok (.aload_n 0, 1) := by decide +kernel
theorem dX7_town_1 : decode cX7_town 1 = .ok (.iconst 3, 1) := by decide +kernel
theorem dX7_town_2 : decode cX7_town 2 = .ok (.invokevirtual 110, 3) := by decide +kernel
theorem dX7_town_5 : decode cX7_town 5 = .ok (.aload_n 0, 1) := by decide +kernel
theorem dX7_town_6 : decode cX7_town 6 = .ok (.iload_n 1, 1) := by decide +kernel
theorem dX7_town_7 : decode cX7_town 7 = .ok (.invokevirtual 174, 3) := by decide +kernel
theorem dX7_town_10 : decode cX7_town 10 = .ok (.ifCond .eq 17, 3) := by decide +kernel
theorem dX7_town_13 : decode cX7_town 13 = .ok (.aload_n 0, 1) := by decide +kernel
theorem dX7_town_14 : decode cX7_town 14 = .ok (.getfield 33, 3) := by decide +kernel
theorem dX7_town_17 : decode cX7_town 17 = .ok (.getfield 177, 3) := by decide +kernel
theorem dX7_town_20 : decode cX7_town 20 = .ok (.iload_n 1, 1) := by decide +kernel
theorem dX7_town_21 : decode cX7_town 21 = .ok (.invokevirtual 119, 3) := by decide +kernel
theorem dX7_town_24 : decode cX7_town 24 = .ok (.goto 4, 3) := by decide +kernel
theorem dX7_town_27 : decode cX7_town 27 = .ok (.iconst (-1), 1) := by decide +kernel
theorem dX7_town_28 : decode cX7_town 28 = .ok (.ireturn, 1) := by decide +kernel
theorem dX7_cost_0 : decode cX7_cost 0 = .ok (.aload_n 0, 1) := by decide +kernel
theorem dX7_cost_1 : decode cX7_cost 1 = .ok (.iconst 4, 1) := by decide +kernel
theorem dX7_cost_2 : decode cX7_cost 2 = .ok (.invokevirtual 110, 3) := by decide +kernel
theorem dX7_cost_5 : decode cX7_cost 5 = .ok (.aload_n 0, 1) := by decide +kernel
theorem dX7_cost_6 : decode cX7_cost 6 = .ok (.iload_n 1, 1) := by decide +kernel
theorem dX7_cost_7 : decode cX7_cost 7 = .ok (.invokevirtual 174, 3) := by decide +kernel
theorem dX7_cost_10 : decode cX7_cost 10 = .ok (.ifCond .eq 11, 3) := by decide +kernel
theorem dX7_cost_13 : decode cX7_cost 13 = .ok (.aload_n 0, 1) := by decide +kernel
theorem dX7_cost_14 : decode cX7_cost 14 = .ok (.iload_n 2, 1) := by decide +kernel
theorem dX7_cost_15 : decode cX7_cost 15 = .ok (.invokevirtual 174, 3) := by decide +kernel
theorem dX7_cost_18 : decode cX7_cost 18 = .ok (.ifCond .ne 5, 3) := by decide +kernel
theorem dX7_cost_21 : decode cX7_cost 21 = .ok (.iconst (-1), 1) := by decide +kernel
theorem dX7_cost_22 : decode cX7_cost 22 = .ok (.ireturn, 1) := by decide +kernel
theorem dX7_cost_23 : decode cX7_cost 23 = .ok (.aload_n 0, 1) := by decide +kernel
theorem dX7_cost_24 : decode cX7_cost 24 = .ok (.getfield 40, 3) := by decide +kernel
theorem dX7_cost_27 : decode cX7_cost 27 = .ok (.aload_n 0, 1) := by decide +kernel
theorem dX7_cost_28 : decode cX7_cost 28 = .ok (.getfield 33, 3) := by decide +kernel
theorem dX7_cost_31 : decode cX7_cost 31 = .ok (.getfield 177, 3) := by decide +kernel
theorem dX7_cost_34 : decode cX7_cost 34 = .ok (.iload_n 1, 1) := by decide +kernel
theorem dX7_cost_35 : decode cX7_cost 35 = .ok (.invokevirtual 119, 3) := by decide +kernel
theorem dX7_cost_38 : decode cX7_cost 38 = .ok (.iload_n 2, 1) := by decide +kernel
theorem dX7_cost_39 : decode cX7_cost 39 = .ok (.invokevirtual 180, 3) := by decide +kernel
theorem dX7_cost_42 : decode cX7_cost 42 = .ok (.ireturn, 1) := by decide +kernel
theorem dX7_way_0 : decode cX7_way 0 = .ok (.aload_n 0, 1) := by decide +kernel
theorem dX7_way_1 : decode cX7_way 1 = .ok (.iconst 4, 1) := by decide +kernel
theorem dX7_way_2 : decode cX7_way 2 = .ok (.invokevirtual 110, 3) := by decide +kernel
theorem dX7_way_5 : decode cX7_way 5 = .ok (.aload_n 0, 1) := by decide +kernel
theorem dX7_way_6 : decode cX7_way 6 = .ok (.iload_n 1, 1) := by decide +kernel
theorem dX7_way_7 : decode cX7_way 7 = .ok (.invokevirtual 174, 3) := by decide +kernel
theorem dX7_way_10 : decode cX7_way 10 = .ok (.ifCond .eq 11, 3) := by decide +kernel
theorem dX7_way_13 : decode cX7_way 13 = .ok (.aload_n 0, 1) := by decide +kernel
theorem dX7_way_14 : decode cX7_way 14 = .ok (.iload_n 2, 1) := by decide +kernel
theorem dX7_way_15 : decode cX7_way 15 = .ok (.invokevirtual 174, 3) := by decide +kernel
theorem dX7_way_18 : decode cX7_way 18 = .ok (.ifCond .ne 5, 3) := by decide +kernel
theorem dX7_way_21 : decode cX7_way 21 = .ok (.iconst (-1), 1) := by decide +kernel
theorem dX7_way_22 : decode cX7_way 22 = .ok (.ireturn, 1) := by decide +kernel
theorem dX7_way_23 : decode cX7_way 23 = .ok (.aload_n 0, 1) := by decide +kernel
theorem dX7_way_24 : decode cX7_way 24 = .ok (.getfield 40, 3) := by decide +kernel
theorem dX7_way_27 : decode cX7_way 27 = .ok (.aload_n 0, 1) := by decide +kernel
theorem dX7_way_28 : decode cX7_way 28 = .ok (.getfield 12, 3) := by decide +kernel
theorem dX7_way_31 : decode cX7_way 31 = .ok (.aload_n 0, 1) := by decide +kernel
theorem dX7_way_32 : decode cX7_way 32 = .ok (.getfield 19, 3) := by decide +kernel
theorem dX7_way_35 : decode cX7_way 35 = .ok (.aload_n 0, 1) := by decide +kernel
theorem dX7_way_36 : decode cX7_way 36 = .ok (.getfield 33, 3) := by decide +kernel
theorem dX7_way_39 : decode cX7_way 39 = .ok (.getfield 177, 3) := by decide +kernel
theorem dX7_way_42 : decode cX7_way 42 = .ok (.iload_n 1, 1) := by decide +kernel
theorem dX7_way_43 : decode cX7_way 43 = .ok (.invokevirtual 119, 3) := by decide +kernel
theorem dX7_way_46 : decode cX7_way 46 = .ok (.iload_n 2, 1) := by decide +kernel
theorem dX7_way_47 : decode cX7_way 47 = .ok (.iload_n 3, 1) := by decide +kernel
theorem dX7_way_48 : decode cX7_way 48 = .ok (.invokevirtual 183, 3) := by decide +kernel
theorem dX7_way_51 : decode cX7_way 51 = .ok (.ireturn, 1) := by decide +kernel
theorem dX7_net_0 : decode cX7_net 0 = .ok (.iload_n 1, 1) := by decide +kernel
theorem dX7_net_1 : decode cX7_net 1 = .ok (.ifCond .lt 14, 3) := by decide +kernel
theorem dX7_net_4 : decode cX7_net 4 = .ok (.iload_n 1, 1) := by decide +kernel
theorem dX7_net_5 : decode cX7_net 5 = .ok (.iconst 2, 1) := by decide +kernel
theorem dX7_net_6 : decode cX7_net 6 = .ok (.if_icmp .le 12, 3) := by decide +kernel
theorem dX7_net_9 : decode cX7_net 9 = .ok (.iload_n 1, 1) := by decide +kernel
theorem dX7_net_10 : decode cX7_net 10 = .ok (.bipush 10, 2) := by decide +kernel
theorem dX7_net_12 : decode cX7_net 12 = .ok (.if_icmp .ge 6, 3) := by decide +kernel
theorem dX7_net_15 : decode cX7_net 15 = .ok (.bipush (-2), 2) := by decide +kernel
theorem dX7_net_17 : decode cX7_net 17 = .ok (.ireturn, 1) := by decide +kernel
theorem dX7_net_18 : decode cX7_net 18 = .ok (.aload_n 0, 1) := by decide +kernel
theorem dX7_net_19 : decode cX7_net 19 = .ok (.iconst 4, 1) := by decide +kernel
theorem dX7_net_20 : decode cX7_net 20 = .ok (.invokevirtual 110, 3) := by decide +kernel
theorem dX7_net_23 : decode cX7_net 23 = .ok (.iload_n 1, 1) := by decide +kernel
theorem dX7_net_24 : decode cX7_net 24 = .ok (.tableswitch 52 0 2 #[28, 36, 44], 28) := by decide +kernel
theorem dX7_net_52 : decode cX7_net 52 = .ok (.aload_n 0, 1) := by decide +kernel
theorem dX7_net_53 : decode cX7_net 53 = .ok (.getfield 40, 3) := by decide +kernel
theorem dX7_net_56 : decode cX7_net 56 = .ok (.getfield 187, 3) := by decide +kernel
theorem dX7_net_59 : decode cX7_net 59 = .ok (.ireturn, 1) := by decide +kernel
theorem dX7_net_60 : decode cX7_net 60 = .ok (.aload_n 0, 1) := by decide +kernel
theorem dX7_net_61 : decode cX7_net 61 = .ok (.getfield 40, 3) := by decide +kernel
theorem dX7_net_64 : decode cX7_net 64 = .ok (.getfield 190, 3) := by decide +kernel
theorem dX7_net_67 : decode cX7_net 67 = .ok (.ireturn, 1) := by decide +kernel
theorem dX7_net_68 : decode cX7_net 68 = .ok (.aload_n 0, 1) := by decide +kernel
theorem dX7_net_69 : decode cX7_net 69 = .ok (.getfield 40, 3) := by decide +kernel
theorem dX7_net_72 : decode cX7_net 72 = .ok (.getfield 193, 3) := by decide +kernel
theorem dX7_net_75 : decode cX7_net 75 = .ok (.ireturn, 1) := by decide +kernel
theorem dX7_net_76 : decode cX7_net 76 = .ok (.aload_n 0, 1) := by decide +kernel
theorem dX7_net_77 : decode cX7_net 77 = .ok (.getfield 40, 3) := by decide +kernel
theorem dX7_net_80 : decode cX7_net 80 = .ok (.iload_n 1, 1) := by decide +kernel
theorem dX7_net_81 : decode cX7_net 81 = .ok (.bipush 10, 2) := by decide +kernel
theorem dX7_net_83 : decode cX7_net 83 = .ok (.isub, 1) := by decide +kernel
theorem dX7_net_84 : decode cX7_net 84 = .ok (.invokevirtual 196, 3) := by decide +kernel
theorem dX7_net_87 : decode cX7_net 87 = .ok (.ireturn, 1) := by decide +kernel
theorem dX7_roads_0 : decode cX7_roads 0 = .ok (.aload_n 0, 1) := by decide +kernel
theorem dX7_roads_1 : decode cX7_roads 1 = .ok (.getfield 12, 3) := by decide +kernel
theorem dX7_roads_4 : decode cX7_roads 4 = .ok (.iload_n 1, 1) := by decide +kernel
theorem dX7_roads_5 : decode cX7_roads 5 = .ok (.invokevirtual 103, 3) := by decide +kernel
theorem dX7_roads_8 : decode cX7_roads 8 = .ok (.ifCond .ne 5, 3) := by decide +kernel
theorem dX7_roads_11 : decode cX7_roads 11 = .ok (.iconst (-1), 1) := by decide +kernel
theorem dX7_roads_12 : decode cX7_roads 12 = .ok (.ireturn, 1) := by decide +kernel
theorem dX7_roads_13 : decode cX7_roads 13 = .ok (.aload_n 0, 1) := by decide +kernel
theorem dX7_roads_14 : decode cX7_roads 14 = .ok (.iconst 4, 1) := by decide +kernel
theorem dX7_roads_15 : decode cX7_roads 15 = .ok (.invokevirtual 110, 3) := by decide +kernel
theorem dX7_roads_18 : decode cX7_roads 18 = .ok (.aload_n 0, 1) := by decide +kernel
theorem dX7_roads_19 : decode cX7_roads 19 = .ok (.getfield 40, 3) := by decide +kernel
theorem dX7_roads_22 : decode cX7_roads 22 = .ok (.getfield 199, 3) := by decide +kernel
theorem dX7_roads_25 : decode cX7_roads 25 = .ok (.iload_n 1, 1) := by decide +kernel
theorem dX7_roads_26 : decode cX7_roads 26 = .ok (.invokevirtual 119, 3) := by decide +kernel
theorem dX7_roads_29 : decode cX7_roads 29 = .ok (.ireturn, 1) := by decide +kernel
theorem dX7_told_0 : decode cX7_told 0 = .ok (.iload_n 1, 1) := by decide +kernel
theorem dX7_told_1 : decode cX7_told 1 = .ok (.tableswitch 153 0 10 #[59, 67, 75, 83, 92, 101, 110, 119, 132, 137, 145], 59) := by decide +kernel
theorem dX7_told_60 : decode cX7_told 60 = .ok (.aload_n 0, 1) := by decide +kernel
theorem dX7_told_61 : decode cX7_told 61 = .ok (.getfield 12, 3) := by decide +kernel
theorem dX7_told_64 : decode cX7_told 64 = .ok (.getfield 90, 3) := by decide +kernel
theorem dX7_told_67 : decode cX7_told 67 = .ok (.ireturn, 1) := by decide +kernel
theorem dX7_told_68 : decode cX7_told 68 = .ok (.aload_n 0, 1) := by decide +kernel
theorem dX7_told_69 : decode cX7_told 69 = .ok (.getfield 12, 3) := by decide +kernel
theorem dX7_told_72 : decode cX7_told 72 = .ok (.getfield 97, 3) := by decide +kernel
theorem dX7_told_75 : decode cX7_told 75 = .ok (.ireturn, 1) := by decide +kernel
theorem dX7_told_76 : decode cX7_told 76 = .ok (.aload_n 0, 1) := by decide +kernel
theorem dX7_told_77 : decode cX7_told 77 = .ok (.getfield 12, 3) := by decide +kernel
theorem dX7_told_80 : decode cX7_told 80 = .ok (.getfield 100, 3) := by decide +kernel
theorem dX7_told_83 : decode cX7_told 83 = .ok (.ireturn, 1) := by decide +kernel
theorem dX7_told_84 : decode cX7_told 84 = .ok (.aload_n 0, 1) := by decide +kernel
theorem dX7_told_85 : decode cX7_told 85 = .ok (.getfield 56, 3) := by decide +kernel
theorem dX7_told_88 : decode cX7_told 88 = .ok (.iconst 0, 1) := by decide +kernel
theorem dX7_told_89 : decode cX7_told 89 = .ok (.invokevirtual 119, 3) := by decide +kernel
theorem dX7_told_92 : decode cX7_told 92 = .ok (.ireturn, 1) := by decide +kernel
theorem dX7_told_93 : decode cX7_told 93 = .ok (.aload_n 0, 1) := by decide +kernel
theorem dX7_told_94 : decode cX7_told 94 = .ok (.getfield 56, 3) := by decide +kernel
theorem dX7_told_97 : decode cX7_told 97 = .ok (.iconst 1, 1) := by decide +kernel
theorem dX7_told_98 : decode cX7_told 98 = .ok (.invokevirtual 119, 3) := by decide +kernel
theorem dX7_told_101 : decode cX7_told 101 = .ok (.ireturn, 1) := by decide +kernel
theorem dX7_told_102 : decode cX7_told 102 = .ok (.aload_n 0, 1) := by decide +kernel
theorem dX7_told_103 : decode cX7_told 103 = .ok (.getfield 56, 3) := by decide +kernel
theorem dX7_told_106 : decode cX7_told 106 = .ok (.iconst 2, 1) := by decide +kernel
theorem dX7_told_107 : decode cX7_told 107 = .ok (.invokevirtual 119, 3) := by decide +kernel
theorem dX7_told_110 : decode cX7_told 110 = .ok (.ireturn, 1) := by decide +kernel
theorem dX7_told_111 : decode cX7_told 111 = .ok (.aload_n 0, 1) := by decide +kernel
theorem dX7_told_112 : decode cX7_told 112 = .ok (.getfield 56, 3) := by decide +kernel
theorem dX7_told_115 : decode cX7_told 115 = .ok (.iconst 3, 1) := by decide +kernel
theorem dX7_told_116 : decode cX7_told 116 = .ok (.invokevirtual 119, 3) := by decide +kernel
theorem dX7_told_119 : decode cX7_told 119 = .ok (.ireturn, 1) := by decide +kernel
theorem dX7_told_120 : decode cX7_told 120 = .ok (.aload_n 0, 1) := by decide +kernel
theorem dX7_told_121 : decode cX7_told 121 = .ok (.iconst 3, 1) := by decide +kernel
theorem dX7_told_122 : decode cX7_told 122 = .ok (.invokevirtual 110, 3) := by decide +kernel
theorem dX7_told_125 : decode cX7_told 125 = .ok (.aload_n 0, 1) := by decide +kernel
theorem dX7_told_126 : decode cX7_told 126 = .ok (.getfield 33, 3) := by decide +kernel
theorem dX7_told_129 : decode cX7_told 129 = .ok (.getfield 173, 3) := by decide +kernel
theorem dX7_told_132 : decode cX7_told 132 = .ok (.ireturn, 1) := by decide +kernel
theorem dX7_told_133 : decode cX7_told 133 = .ok (.aload_n 0, 1) := by decide +kernel
theorem dX7_told_134 : decode cX7_told 134 = .ok (.getfield 60, 3) := by decide +kernel
theorem dX7_told_137 : decode cX7_told 137 = .ok (.ireturn, 1) := by decide +kernel
theorem dX7_told_138 : decode cX7_told 138 = .ok (.aload_n 0, 1) := by decide +kernel
theorem dX7_told_139 : decode cX7_told 139 = .ok (.getfield 12, 3) := by decide +kernel
theorem dX7_told_142 : decode cX7_told 142 = .ok (.getfield 107, 3) := by decide +kernel
theorem dX7_told_145 : decode cX7_told 145 = .ok (.ireturn, 1) := by decide +kernel
theorem dX7_told_146 : decode cX7_told 146 = .ok (.aload_n 0, 1) := by decide +kernel
theorem dX7_told_147 : decode cX7_told 147 = .ok (.getfield 12, 3) := by decide +kernel
theorem dX7_told_150 : decode cX7_told 150 = .ok (.getfield 75, 3) := by decide +kernel
theorem dX7_told_153 : decode cX7_told 153 = .ok (.ireturn, 1) := by decide +kernel
theorem dX7_told_154 : decode cX7_told 154 = .ok (.bipush (-2), 2) := by decide +kernel
theorem dX7_told_156 : decode cX7_told 156 = .ok (.ireturn, 1) := by decide +kernel
theorem dX7_within_0 : decode cX7_within 0 = .ok (.iload_n 0, 1) := by decide +kernel
theorem dX7_within_1 : decode cX7_within 1 = .ok (.iload_n 1, 1) := by decide +kernel
theorem dX7_within_2 : decode cX7_within 2 = .ok (.if_icmp .lt 12, 3) := by decide +kernel
theorem dX7_within_5 : decode cX7_within 5 = .ok (.iload_n 0, 1) := by decide +kernel
theorem dX7_within_6 : decode cX7_within 6 = .ok (.iload_n 2, 1) := by decide +kernel
theorem dX7_within_7 : decode cX7_within 7 = .ok (.if_icmp .gt 7, 3) := by decide +kernel
theorem dX7_within_10 : decode cX7_within 10 = .ok (.iconst 1, 1) := by decide +kernel
theorem dX7_within_11 : decode cX7_within 11 = .ok (.goto 4, 3) := by decide +kernel
theorem dX7_within_14 : decode cX7_within 14 = .ok (.iconst 0, 1) := by decide +kernel
theorem dX7_within_15 : decode cX7_within 15 = .ok (.ireturn, 1) := by decide +kernel
theorem dX7_stageAhead_0 : decode cX7_stageAhead 0 = .ok (.iload_n 0, 1) := by decide +kernel
theorem dX7_stageAhead_1 : decode cX7_stageAhead 1 = .ok (.iconst 3, 1) := by decide +kernel
theorem dX7_stageAhead_2 : decode cX7_stageAhead 2 = .ok (.if_icmp .ne 5, 3) := by decide +kernel
theorem dX7_stageAhead_5 : decode cX7_stageAhead 5 = .ok (.iconst 3, 1) := by decide +kernel
theorem dX7_stageAhead_6 : decode cX7_stageAhead 6 = .ok (.ireturn, 1) := by decide +kernel
theorem dX7_stageAhead_7 : decode cX7_stageAhead 7 = .ok (.iload_n 0, 1) := by decide +kernel
theorem dX7_stageAhead_8 : decode cX7_stageAhead 8 = .ok (.iconst 2, 1) := by decide +kernel
theorem dX7_stageAhead_9 : decode cX7_stageAhead 9 = .ok (.if_icmp .ne 7, 3) := by decide +kernel
theorem dX7_stageAhead_12 : decode cX7_stageAhead 12 = .ok (.iconst 2, 1) := by decide +kernel
theorem dX7_stageAhead_13 : decode cX7_stageAhead 13 = .ok (.goto 4, 3) := by decide +kernel
theorem dX7_stageAhead_16 : decode cX7_stageAhead 16 = .ok (.iconst 1, 1) := by decide +kernel
theorem dX7_stageAhead_17 : decode cX7_stageAhead 17 = .ok (.ireturn, 1) := by decide +kernel
theorem dX7_keepUpTo_0 : decode cX7_keepUpTo 0 = .ok (.aload_n 0, 1) := by decide +kernel
theorem dX7_keepUpTo_1 : decode cX7_keepUpTo 1 = .ok (.aload_n 0, 1) := by decide +kernel
theorem dX7_keepUpTo_2 : decode cX7_keepUpTo 2 = .ok (.getfield 64, 3) := by decide +kernel
theorem dX7_keepUpTo_5 : decode cX7_keepUpTo 5 = .ok (.iload_n 1, 1) := by decide +kernel
theorem dX7_keepUpTo_6 : decode cX7_keepUpTo 6 = .ok (.invokestatic 202, 3) := by decide +kernel
theorem dX7_keepUpTo_9 : decode cX7_keepUpTo 9 = .ok (.putfield 64, 3) := by decide +kernel
theorem dX7_keepUpTo_12 : decode cX7_keepUpTo 12 = .ok (.return_, 1) := by decide +kernel
theorem dX7_makeUpTo_0 : decode cX7_makeUpTo 0 = .ok (.aload_n 0, 1) := by decide +kernel
theorem dX7_makeUpTo_1 : decode cX7_makeUpTo 1 = .ok (.getfield 64, 3) := by decide +kernel
theorem dX7_makeUpTo_4 : decode cX7_makeUpTo 4 = .ok (.iconst 1, 1) := by decide +kernel
theorem dX7_makeUpTo_5 : decode cX7_makeUpTo 5 = .ok (.if_icmp .ge 15, 3) := by decide +kernel
theorem dX7_makeUpTo_8 : decode cX7_makeUpTo 8 = .ok (.iload_n 1, 1) := by decide +kernel
theorem dX7_makeUpTo_9 : decode cX7_makeUpTo 9 = .ok (.iconst 1, 1) := by decide +kernel
theorem dX7_makeUpTo_10 : decode cX7_makeUpTo 10 = .ok (.if_icmp .lt 10, 3) := by decide +kernel
theorem dX7_makeUpTo_13 : decode cX7_makeUpTo 13 = .ok (.aload_n 0, 1) := by decide +kernel
theorem dX7_makeUpTo_14 : decode cX7_makeUpTo 14 = .ok (.getfield 12, 3) := by decide +kernel
theorem dX7_makeUpTo_17 : decode cX7_makeUpTo 17 = .ok (.invokevirtual 207, 3) := by decide +kernel
theorem dX7_makeUpTo_20 : decode cX7_makeUpTo 20 = .ok (.aload_n 0, 1) := by decide +kernel
theorem dX7_makeUpTo_21 : decode cX7_makeUpTo 21 = .ok (.getfield 64, 3) := by decide +kernel
theorem dX7_makeUpTo_24 : decode cX7_makeUpTo 24 = .ok (.iconst 2, 1) := by decide +kernel
theorem dX7_makeUpTo_25 : decode cX7_makeUpTo 25 = .ok (.if_icmp .ge 61, 3) := by decide +kernel
theorem dX7_makeUpTo_28 : decode cX7_makeUpTo 28 = .ok (.iload_n 1, 1) := by decide +kernel
theorem dX7_makeUpTo_29 : decode cX7_makeUpTo 29 = .ok (.iconst 2, 1) := by decide +kernel
theorem dX7_makeUpTo_30 : decode cX7_makeUpTo 30 = .ok (.if_icmp .lt 56, 3) := by decide +kernel
theorem dX7_makeUpTo_33 : decode cX7_makeUpTo 33 = .ok (.aload_n 0, 1) := by decide +kernel
theorem dX7_makeUpTo_34 : decode cX7_makeUpTo 34 = .ok (.getfield 12, 3) := by decide +kernel
theorem dX7_makeUpTo_37 : decode cX7_makeUpTo 37 = .ok (.invokevirtual 210, 3) := by decide +kernel
theorem dX7_makeUpTo_40 : decode cX7_makeUpTo 40 = .ok (.aload_n 0, 1) := by decide +kernel
theorem dX7_makeUpTo_41 : decode cX7_makeUpTo 41 = .ok (.getfield 19, 3) := by decide +kernel
theorem dX7_makeUpTo_44 : decode cX7_makeUpTo 44 = .ok (.aload_n 0, 1) := by decide +kernel
theorem dX7_makeUpTo_45 : decode cX7_makeUpTo 45 = .ok (.getfield 12, 3) := by decide +kernel
theorem dX7_makeUpTo_48 : decode cX7_makeUpTo 48 = .ok (.aload_n 0, 1) := by decide +kernel
theorem dX7_makeUpTo_49 : decode cX7_makeUpTo 49 = .ok (.getfield 47, 3) := by decide +kernel
theorem dX7_makeUpTo_52 : decode cX7_makeUpTo 52 = .ok (.aload_n 0, 1) := by decide +kernel
theorem dX7_makeUpTo_53 : decode cX7_makeUpTo 53 = .ok (.getfield 56, 3) := by decide +kernel
theorem dX7_makeUpTo_56 : decode cX7_makeUpTo 56 = .ok (.iconst 0, 1) := by decide +kernel
theorem dX7_makeUpTo_57 : decode cX7_makeUpTo 57 = .ok (.invokevirtual 119, 3) := by decide +kernel
theorem dX7_makeUpTo_60 : decode cX7_makeUpTo 60 = .ok (.aload_n 0, 1) := by decide +kernel
theorem dX7_makeUpTo_61 : decode cX7_makeUpTo 61 = .ok (.getfield 56, 3) := by decide +kernel
theorem dX7_makeUpTo_64 : decode cX7_makeUpTo 64 = .ok (.iconst 1, 1) := by decide +kernel
theorem dX7_makeUpTo_65 : decode cX7_makeUpTo 65 = .ok (.invokevirtual 119, 3) := by decide +kernel
theorem dX7_makeUpTo_68 : decode cX7_makeUpTo 68 = .ok (.invokevirtual 213, 3) := by decide +kernel
theorem dX7_makeUpTo_71 : decode cX7_makeUpTo 71 = .ok (.aload_n 0, 1) := by decide +kernel
theorem dX7_makeUpTo_72 : decode cX7_makeUpTo 72 = .ok (.getfield 26, 3) := by decide +kernel
theorem dX7_makeUpTo_75 : decode cX7_makeUpTo 75 = .ok (.aload_n 0, 1) := by decide +kernel
theorem dX7_makeUpTo_76 : decode cX7_makeUpTo 76 = .ok (.getfield 12, 3) := by decide +kernel
theorem dX7_makeUpTo_79 : decode cX7_makeUpTo 79 = .ok (.aload_n 0, 1) := by decide +kernel
theorem dX7_makeUpTo_80 : decode cX7_makeUpTo 80 = .ok (.getfield 19, 3) := by decide +kernel
theorem dX7_makeUpTo_83 : decode cX7_makeUpTo 83 = .ok (.invokevirtual 217, 3) := by decide +kernel
theorem dX7_makeUpTo_86 : decode cX7_makeUpTo 86 = .ok (.aload_n 0, 1) := by decide +kernel
theorem dX7_makeUpTo_87 : decode cX7_makeUpTo 87 = .ok (.getfield 64, 3) := by decide +kernel
theorem dX7_makeUpTo_90 : decode cX7_makeUpTo 90 = .ok (.iconst 3, 1) := by decide +kernel
theorem dX7_makeUpTo_91 : decode cX7_makeUpTo 91 = .ok (.if_icmp .ge 35, 3) := by decide +kernel
theorem dX7_makeUpTo_94 : decode cX7_makeUpTo 94 = .ok (.iload_n 1, 1) := by decide +kernel
theorem dX7_makeUpTo_95 : decode cX7_makeUpTo 95 = .ok (.iconst 3, 1) := by decide +kernel
theorem dX7_makeUpTo_96 : decode cX7_makeUpTo 96 = .ok (.if_icmp .lt 30, 3) := by decide +kernel
theorem dX7_makeUpTo_99 : decode cX7_makeUpTo 99 = .ok (.aload_n 0, 1) := by decide +kernel
theorem dX7_makeUpTo_100 : decode cX7_makeUpTo 100 = .ok (.getfield 33, 3) := by decide +kernel
theorem dX7_makeUpTo_103 : decode cX7_makeUpTo 103 = .ok (.aload_n 0, 1) := by decide +kernel
theorem dX7_makeUpTo_104 : decode cX7_makeUpTo 104 = .ok (.getfield 12, 3) := by decide +kernel
theorem dX7_makeUpTo_107 : decode cX7_makeUpTo 107 = .ok (.aload_n 0, 1) := by decide +kernel
theorem dX7_makeUpTo_108 : decode cX7_makeUpTo 108 = .ok (.getfield 19, 3) := by decide +kernel
theorem dX7_makeUpTo_111 : decode cX7_makeUpTo 111 = .ok (.aload_n 0, 1) := by decide +kernel
theorem dX7_makeUpTo_112 : decode cX7_makeUpTo 112 = .ok (.getfield 60, 3) := by decide +kernel
theorem dX7_makeUpTo_115 : decode cX7_makeUpTo 115 = .ok (.aload_n 0, 1) := by decide +kernel
theorem dX7_makeUpTo_116 : decode cX7_makeUpTo 116 = .ok (.getfield 56, 3) := by decide +kernel
theorem dX7_makeUpTo_119 : decode cX7_makeUpTo 119 = .ok (.iconst 2, 1) := by decide +kernel
theorem dX7_makeUpTo_120 : decode cX7_makeUpTo 120 = .ok (.invokevirtual 119, 3) := by decide +kernel
theorem dX7_makeUpTo_123 : decode cX7_makeUpTo 123 = .ok (.invokevirtual 221, 3) := by decide +kernel
theorem dX7_makeUpTo_126 : decode cX7_makeUpTo 126 = .ok (.aload_n 0, 1) := by decide +kernel
theorem dX7_makeUpTo_127 : decode cX7_makeUpTo 127 = .ok (.getfield 64, 3) := by decide +kernel
theorem dX7_makeUpTo_130 : decode cX7_makeUpTo 130 = .ok (.iconst 4, 1) := by decide +kernel
theorem dX7_makeUpTo_131 : decode cX7_makeUpTo 131 = .ok (.if_icmp .ge 39, 3) := by decide +kernel
theorem dX7_makeUpTo_134 : decode cX7_makeUpTo 134 = .ok (.iload_n 1, 1) := by decide +kernel
theorem dX7_makeUpTo_135 : decode cX7_makeUpTo 135 = .ok (.iconst 4, 1) := by decide +kernel
theorem dX7_makeUpTo_136 : decode cX7_makeUpTo 136 = .ok (.if_icmp .lt 34, 3) := by decide +kernel
theorem dX7_makeUpTo_139 : decode cX7_makeUpTo 139 = .ok (.aload_n 0, 1) := by decide +kernel
theorem dX7_makeUpTo_140 : decode cX7_makeUpTo 140 = .ok (.getfield 40, 3) := by decide +kernel
theorem dX7_makeUpTo_143 : decode cX7_makeUpTo 143 = .ok (.aload_n 0, 1) := by decide +kernel
theorem dX7_makeUpTo_144 : decode cX7_makeUpTo 144 = .ok (.getfield 12, 3) := by decide +kernel
theorem dX7_makeUpTo_147 : decode cX7_makeUpTo 147 = .ok (.aload_n 0, 1) := by decide +kernel
theorem dX7_makeUpTo_148 : decode cX7_makeUpTo 148 = .ok (.getfield 19, 3) := by decide +kernel
theorem dX7_makeUpTo_151 : decode cX7_makeUpTo 151 = .ok (.aload_n 0, 1) := by decide +kernel
theorem dX7_makeUpTo_152 : decode cX7_makeUpTo 152 = .ok (.getfield 33, 3) := by decide +kernel
theorem dX7_makeUpTo_155 : decode cX7_makeUpTo 155 = .ok (.aload_n 0, 1) := by decide +kernel
theorem dX7_makeUpTo_156 : decode cX7_makeUpTo 156 = .ok (.getfield 47, 3) := by decide +kernel
theorem dX7_makeUpTo_159 : decode cX7_makeUpTo 159 = .ok (.aload_n 0, 1) := by decide +kernel
theorem dX7_makeUpTo_160 : decode cX7_makeUpTo 160 = .ok (.getfield 56, 3) := by decide +kernel
theorem dX7_makeUpTo_163 : decode cX7_makeUpTo 163 = .ok (.iconst 3, 1) := by decide +kernel
theorem dX7_makeUpTo_164 : decode cX7_makeUpTo 164 = .ok (.invokevirtual 119, 3) := by decide +kernel
theorem dX7_makeUpTo_167 : decode cX7_makeUpTo 167 = .ok (.invokevirtual 225, 3) := by decide +kernel
theorem dX7_makeUpTo_170 : decode cX7_makeUpTo 170 = .ok (.aload_n 0, 1) := by decide +kernel
theorem dX7_makeUpTo_171 : decode cX7_makeUpTo 171 = .ok (.aload_n 0, 1) := by decide +kernel
theorem dX7_makeUpTo_172 : decode cX7_makeUpTo 172 = .ok (.getfield 64, 3) := by decide +kernel
theorem dX7_makeUpTo_175 : decode cX7_makeUpTo 175 = .ok (.iload_n 1, 1) := by decide +kernel
theorem dX7_makeUpTo_176 : decode cX7_makeUpTo 176 = .ok (.invokestatic 229, 3) := by decide +kernel
theorem dX7_makeUpTo_179 : decode cX7_makeUpTo 179 = .ok (.putfield 64, 3) := by decide +kernel
theorem dX7_makeUpTo_182 : decode cX7_makeUpTo 182 = .ok (.return_, 1) := by decide +kernel
theorem dX7_isTown_0 : decode cX7_isTown 0 = .ok (.iload_n 1, 1) := by decide +kernel
theorem dX7_isTown_1 : decode cX7_isTown 1 = .ok (.iconst 0, 1) := by decide +kernel
theorem dX7_isTown_2 : decode cX7_isTown 2 = .ok (.aload_n 0, 1) := by decide +kernel
theorem dX7_isTown_3 : decode cX7_isTown 3 = .ok (.getfield 33, 3) := by decide +kernel
theorem dX7_isTown_6 : decode cX7_isTown 6 = .ok (.getfield 173, 3) := by decide +kernel
theorem dX7_isTown_9 : decode cX7_isTown 9 = .ok (.iconst 1, 1) := by decide +kernel
theorem dX7_isTown_10 : decode cX7_isTown 10 = .ok (.isub, 1) := by decide +kernel
theorem dX7_isTown_11 : decode cX7_isTown 11 = .ok (.invokestatic 82, 3) := by decide +kernel
theorem dX7_isTown_14 : decode cX7_isTown 14 = .ok (.ireturn, 1) := by decide +kernel
theorem dX7_signsOf_0 : decode cX7_signsOf 0 = .ok (.aload_n 0, 1) := by decide +kernel
theorem dX7_signsOf_1 : decode cX7_signsOf 1 = .ok (.getfield 19, 3) := by decide +kernel
theorem dX7_signsOf_4 : decode cX7_signsOf 4 = .ok (.getfield 232, 3) := by decide +kernel
theorem dX7_signsOf_7 : decode cX7_signsOf 7 = .ok (.iload_n 1, 1) := by decide +kernel
theorem dX7_signsOf_8 : decode cX7_signsOf 8 = .ok (.invokevirtual 119, 3) := by decide +kernel
theorem dX7_signsOf_11 : decode cX7_signsOf 11 = .ok (.istore_n 2, 1) := by decide +kernel
theorem dX7_signsOf_12 : decode cX7_signsOf 12 = .ok (.aload_n 0, 1) := by decide +kernel
theorem dX7_signsOf_13 : decode cX7_signsOf 13 = .ok (.getfield 33, 3) := by decide +kernel
theorem dX7_signsOf_16 : decode cX7_signsOf 16 = .ok (.iload_n 1, 1) := by decide +kernel
theorem dX7_signsOf_17 : decode cX7_signsOf 17 = .ok (.invokevirtual 235, 3) := by decide +kernel
theorem dX7_signsOf_20 : decode cX7_signsOf 20 = .ok (.ifCond .eq 8, 3) := by decide +kernel
theorem dX7_signsOf_23 : decode cX7_signsOf 23 = .ok (.iload_n 2, 1) := by decide +kernel
theorem dX7_signsOf_24 : decode cX7_signsOf 24 = .ok (.bipush 16, 2) := by decide +kernel
theorem dX7_signsOf_26 : decode cX7_signsOf 26 = .ok (.ior, 1) := by decide +kernel
theorem dX7_signsOf_27 : decode cX7_signsOf 27 = .ok (.istore_n 2, 1) := by decide +kernel
theorem dX7_signsOf_28 : decode cX7_signsOf 28 = .ok (.aload_n 0, 1) := by decide +kernel
theorem dX7_signsOf_29 : decode cX7_signsOf 29 = .ok (.getfield 40, 3) := by decide +kernel
theorem dX7_signsOf_32 : decode cX7_signsOf 32 = .ok (.getfield 199, 3) := by decide +kernel
theorem dX7_signsOf_35 : decode cX7_signsOf 35 = .ok (.iload_n 1, 1) := by decide +kernel
theorem dX7_signsOf_36 : decode cX7_signsOf 36 = .ok (.invokevirtual 119, 3) := by decide +kernel
theorem dX7_signsOf_39 : decode cX7_signsOf 39 = .ok (.ifCond .le 8, 3) := by decide +kernel
theorem dX7_signsOf_42 : decode cX7_signsOf 42 = .ok (.iload_n 2, 1) := by decide +kernel
theorem dX7_signsOf_43 : decode cX7_signsOf 43 = .ok (.bipush 32, 2) := by decide +kernel
theorem dX7_signsOf_45 : decode cX7_signsOf 45 = .ok (.ior, 1) := by decide +kernel
theorem dX7_signsOf_46 : decode cX7_signsOf 46 = .ok (.istore_n 2, 1) := by decide +kernel
theorem dX7_signsOf_47 : decode cX7_signsOf 47 = .ok (.iload_n 2, 1) := by decide +kernel
theorem dX7_signsOf_48 : decode cX7_signsOf 48 = .ok (.ireturn, 1) := by decide +kernel
theorem dX8_init_0 : decode cX8_init 0 = .ok (.aload_n 0, 1) := by decide +kernel
theorem dX8_init_1 : decode cX8_init 1 = .ok (.invokespecial 1, 3) := by decide +kernel
theorem dX8_init_4 : decode cX8_init 4 = .ok (.aload_n 0, 1) := by decide +kernel
theorem dX8_init_5 : decode cX8_init 5 = .ok (.bipush 12, 2) := by decide +kernel
theorem dX8_init_7 : decode cX8_init 7 = .ok (.putfield 7, 3) := by decide +kernel
theorem dX8_init_10 : decode cX8_init 10 = .ok (.aload_n 0, 1) := by decide +kernel
theorem dX8_init_11 : decode cX8_init 11 = .ok (.iconst 4, 1) := by decide +kernel
theorem dX8_init_12 : decode cX8_init 12 = .ok (.newarray .int, 2) := by decide +kernel
theorem dX8_init_14 : decode cX8_init 14 = .ok (.putfield 13, 3) := by decide +kernel
theorem dX8_init_17 : decode cX8_init 17 = .ok (.aload_n 0, 1) := by decide +kernel
theorem dX8_init_18 : decode cX8_init 18 = .ok (.bipush 30, 2) := by decide +kernel
theorem dX8_init_20 : decode cX8_init 20 = .ok (.newarray .int, 2) := by decide +kernel
theorem dX8_init_22 : decode cX8_init 22 = .ok (.putfield 17, 3) := by decide +kernel
theorem dX8_init_25 : decode cX8_init 25 = .ok (.aload_n 0, 1) := by decide +kernel
theorem dX8_init_26 : decode cX8_init 26 = .ok (.bipush 30, 2) := by decide +kernel
theorem dX8_init_28 : decode cX8_init 28 = .ok (.newarray .int, 2) := by decide +kernel
theorem dX8_init_30 : decode cX8_init 30 = .ok (.putfield 20, 3) := by decide +kernel
theorem dX8_init_33 : decode cX8_init 33 = .ok (.aload_n 0, 1) := by decide +kernel
theorem dX8_init_34 : decode cX8_init 34 = .ok (.bipush 30, 2) := by decide +kernel
theorem dX8_init_36 : decode cX8_init 36 = .ok (.newarray .int, 2) := by decide +kernel
theorem dX8_init_38 : decode cX8_init 38 = .ok (.putfield 23, 3) := by decide +kernel
theorem dX8_init_41 : decode cX8_init 41 = .ok (.aload_n 0, 1) := by decide +kernel
theorem dX8_init_42 : decode cX8_init 42 = .ok (.sipush 576, 3) := by decide +kernel
theorem dX8_init_45 : decode cX8_init 45 = .ok (.newarray .int, 2) := by decide +kernel
theorem dX8_init_47 : decode cX8_init 47 = .ok (.putfield 26, 3) := by decide +kernel
theorem dX8_init_50 : decode cX8_init 50 = .ok (.aload_n 0, 1) := by decide +kernel
theorem dX8_init_51 : decode cX8_init 51 = .ok (.sipush 576, 3) := by decide +kernel
theorem dX8_init_54 : decode cX8_init 54 = .ok (.newarray .int, 2) := by decide +kernel
theorem dX8_init_56 : decode cX8_init 56 = .ok (.putfield 29, 3) := by decide +kernel
theorem dX8_init_59 : decode cX8_init 59 = .ok (.aload_n 0, 1) := by decide +kernel
theorem dX8_init_60 : decode cX8_init 60 = .ok (.sipush 576, 3) := by decide +kernel
theorem dX8_init_63 : decode cX8_init 63 = .ok (.newarray .int, 2) := by decide +kernel
theorem dX8_init_65 : decode cX8_init 65 = .ok (.putfield 32, 3) := by decide +kernel
theorem dX8_init_68 : decode cX8_init 68 = .ok (.aload_n 0, 1) := by decide +kernel
theorem dX8_init_69 : decode cX8_init 69 = .ok (.sipush 576, 3) := by decide +kernel
theorem dX8_init_72 : decode cX8_init 72 = .ok (.newarray .int, 2) := by decide +kernel
theorem dX8_init_74 : decode cX8_init 74 = .ok (.putfield 35, 3) := by decide +kernel
theorem dX8_init_77 : decode cX8_init 77 = .ok (.aload_n 0, 1) := by decide +kernel
theorem dX8_init_78 : decode cX8_init 78 = .ok (.sipush 576, 3) := by decide +kernel
theorem dX8_init_81 : decode cX8_init 81 = .ok (.newarray .int, 2) := by decide +kernel
theorem dX8_init_83 : decode cX8_init 83 = .ok (.putfield 38, 3) := by decide +kernel
theorem dX8_init_86 : decode cX8_init 86 = .ok (.aload_n 0, 1) := by decide +kernel
theorem dX8_init_87 : decode cX8_init 87 = .ok (.sipush 576, 3) := by decide +kernel
theorem dX8_init_90 : decode cX8_init 90 = .ok (.newarray .int, 2) := by decide +kernel
theorem dX8_init_92 : decode cX8_init 92 = .ok (.putfield 41, 3) := by decide +kernel
theorem dX8_init_95 : decode cX8_init 95 = .ok (.aload_n 0, 1) := by decide +kernel
theorem dX8_init_96 : decode cX8_init 96 = .ok (.sipush 576, 3) := by decide +kernel
theorem dX8_init_99 : decode cX8_init 99 = .ok (.newarray .int, 2) := by decide +kernel
theorem dX8_init_101 : decode cX8_init 101 = .ok (.putfield 44, 3) := by decide +kernel
theorem dX8_init_104 : decode cX8_init 104 = .ok (.aload_n 0, 1) := by decide +kernel
theorem dX8_init_105 : decode cX8_init 105 = .ok (.bipush 6, 2) := by decide +kernel
theorem dX8_init_107 : decode cX8_init 107 = .ok (.newarray .int, 2) := by decide +kernel
theorem dX8_init_109 : decode cX8_init 109 = .ok (.putfield 47, 3) := by decide +kernel
theorem dX8_init_112 : decode cX8_init 112 = .ok (.aload_n 0, 1) := by decide +kernel
theorem dX8_init_113 : decode cX8_init 113 = .ok (.bipush 6, 2) := by decide +kernel
theorem dX8_init_115 : decode cX8_init 115 = .ok (.newarray .int, 2) := by decide +kernel
theorem dX8_init_117 : decode cX8_init 117 = .ok (.putfield 50, 3) := by decide +kernel
theorem dX8_init_120 : decode cX8_init 120 = .ok (.aload_n 0, 1) := by decide +kernel
theorem dX8_init_121 : decode cX8_init 121 = .ok (.bipush 6, 2) := by decide +kernel
theorem dX8_init_123 : decode cX8_init 123 = .ok (.newarray .int, 2) := by decide +kernel
theorem dX8_init_125 : decode cX8_init 125 = .ok (.putfield 53, 3) := by decide +kernel
theorem dX8_init_128 : decode cX8_init 128 = .ok (.aload_n 0, 1) := by decide +kernel
theorem dX8_init_129 : decode cX8_init 129 = .ok (.sipush 576, 3) := by decide +kernel
theorem dX8_init_132 : decode cX8_init 132 = .ok (.newarray .int, 2) := by decide +kernel
theorem dX8_init_134 : decode cX8_init 134 = .ok (.putfield 56, 3) := by decide +kernel
theorem dX8_init_137 : decode cX8_init 137 = .ok (.aload_n 0, 1) := by decide +kernel
theorem dX8_init_138 : decode cX8_init 138 = .ok (.sipush 576, 3) := by decide +kernel
theorem dX8_init_141 : decode cX8_init 141 = .ok (.newarray .int, 2) := by decide +kernel
theorem dX8_init_143 : decode cX8_init 143 = .ok (.putfield 59, 3) := by decide +kernel
theorem dX8_init_146 : decode cX8_init 146 = .ok (.aload_n 0, 1) := by decide +kernel
theorem dX8_init_147 : decode cX8_init 147 = .ok (.sipush 576, 3) := by decide +kernel
theorem dX8_init_150 : decode cX8_init 150 = .ok (.newarray .boolean, 2) := by decide +kernel
theorem dX8_init_152 : decode cX8_init 152 = .ok (.putfield 62, 3) := by decide +kernel
theorem dX8_init_155 : decode cX8_init 155 = .ok (.aload_n 0, 1) := by decide +kernel
theorem dX8_init_156 : decode cX8_init 156 = .ok (.sipush 576, 3) := by decide +kernel
theorem dX8_init_159 : decode cX8_init 159 = .ok (.newarray .int, 2) := by decide +kernel
theorem dX8_init_161 : decode cX8_init 161 = .ok (.putfield 66, 3) := by decide +kernel
theorem dX8_init_164 : decode cX8_init 164 = .ok (.aload_n 0, 1) := by decide +kernel
theorem dX8_init_165 : decode cX8_init 165 = .ok (.getfield 13, 3) := by decide +kernel
theorem dX8_init_168 : decode cX8_init 168 = .ok (.iconst 0, 1) := by decide +kernel
theorem dX8_init_169 : decode cX8_init 169 = .ok (.bipush 80, 2) := by decide +kernel
theorem dX8_init_171 : decode cX8_init 171 = .ok (.iastore, 1) := by decide +kernel
theorem dX8_init_172 : decode cX8_init 172 = .ok (.aload_n 0, 1) := by decide +kernel
theorem dX8_init_173 : decode cX8_init 173 = .ok (.getfield 13, 3) := by decide +kernel
theorem dX8_init_176 : decode cX8_init 176 = .ok (.iconst 1, 1) := by decide +kernel
theorem dX8_init_177 : decode cX8_init 177 = .ok (.bipush 8, 2) := by decide +kernel
theorem dX8_init_179 : decode cX8_init 179 = .ok (.iastore, 1) := by decide +kernel
theorem dX8_init_180 : decode cX8_init 180 = .ok (.aload_n 0, 1) := by decide +kernel
theorem dX8_init_181 : decode cX8_init 181 = .ok (.getfield 13, 3) := by decide +kernel
theorem dX8_init_184 : decode cX8_init 184 = .ok (.iconst 2, 1) := by decide +kernel
theorem dX8_init_185 : decode cX8_init 185 = .ok (.iconst 4, 1) := by decide +kernel
theorem dX8_init_186 : decode cX8_init 186 = .ok (.iastore, 1) := by decide +kernel
theorem dX8_init_187 : decode cX8_init 187 = .ok (.aload_n 0, 1) := by decide +kernel
theorem dX8_init_188 : decode cX8_init 188 = .ok (.getfield 13, 3) := by decide +kernel
theorem dX8_init_191 : decode cX8_init 191 = .ok (.iconst 3, 1) := by decide +kernel
theorem dX8_init_192 : decode cX8_init 192 = .ok (.bipush 20, 2) := by decide +kernel
theorem dX8_init_194 : decode cX8_init 194 = .ok (.iastore, 1) := by decide +kernel
theorem dX8_init_195 : decode cX8_init 195 = .ok (.return_, 1) := by decide +kernel
theorem dX8_in_0 : decode cX8_in 0 = .ok (.iload_n 0, 1) := by decide +kernel
theorem dX8_in_1 : decode cX8_in 1 = .ok (.iload_n 1, 1) := by decide +kernel
theorem dX8_in_2 : decode cX8_in 2 = .ok (.if_icmp .lt 12, 3) := by decide +kernel
theorem dX8_in_5 : decode cX8_in 5 = .ok (.iload_n 0, 1) := by decide +kernel
theorem dX8_in_6 : decode cX8_in 6 = .ok (.iload_n 2, 1) := by decide +kernel
theorem dX8_in_7 : decode cX8_in 7 = .ok (.if_icmp .gt 7, 3) := by decide +kernel
theorem dX8_in_10 : decode cX8_in 10 = .ok (.iconst 1, 1) := by decide +kernel
theorem dX8_in_11 : decode cX8_in 11 = .ok (.goto 4, 3) := by decide +kernel
theorem dX8_in_14 : decode cX8_in 14 = .ok (.iconst 0, 1) := by decide +kernel
theorem dX8_in_15 : decode cX8_in 15 = .ok (.ireturn, 1) := by decide +kernel
theorem dX8_isPlace_0 : decode cX8_isPlace 0 = .ok (.iload_n 1, 1) := by decide +kernel
theorem dX8_isPlace_1 : decode cX8_isPlace 1 = .ok (.iconst 0, 1) := by decide +kernel
theorem dX8_isPlace_2 : decode cX8_isPlace 2 = .ok (.aload_n 0, 1) := by decide +kernel
theorem dX8_isPlace_3 : decode cX8_isPlace 3 = .ok (.getfield 7, 3) := by decide +kernel
theorem dX8_isPlace_6 : decode cX8_isPlace 6 = .ok (.aload_n 0, 1) := by decide +kernel
theorem dX8_isPlace_7 : decode cX8_isPlace 7 = .ok (.getfield 7, 3) := by decide +kernel
theorem dX8_isPlace_10 : decode cX8_isPlace 10 = .ok (.imul, 1) := by decide +kernel
theorem dX8_isPlace_11 : decode cX8_isPlace 11 = .ok (.iconst 1, 1) := by decide +kernel
theorem dX8_isPlace_12 : decode cX8_isPlace 12 = .ok (.isub, 1) := by decide +kernel
theorem dX8_isPlace_13 : decode cX8_isPlace 13 = .ok (.invokestatic 69, 3) := by decide +kernel
theorem dX8_isPlace_16 : decode cX8_isPlace 16 = .ok (.ireturn, 1) := by decide +kernel
theorem dX8_seed_0 : decode cX8_seed 0 = .ok (.aload_n 0, 1) := by decide +kernel
theorem dX8_seed_1 : decode cX8_seed 1 = .ok (.getfield 73, 3) := by decide +kernel
theorem dX8_seed_4 : decode cX8_seed 4 = .ok (.istore_n 2, 1) := by decide +kernel
theorem dX8_seed_5 : decode cX8_seed 5 = .ok (.aload_n 0, 1) := by decide +kernel
theorem dX8_seed_6 : decode cX8_seed 6 = .ok (.iload_n 1, 1) := by decide +kernel
theorem dX8_seed_7 : decode cX8_seed 7 = .ok (.putfield 73, 3) := by decide +kernel
theorem dX8_seed_10 : decode cX8_seed 10 = .ok (.aload_n 0, 1) := by decide +kernel
theorem dX8_seed_11 : decode cX8_seed 11 = .ok (.iconst 0, 1) := by decide +kernel
theorem dX8_seed_12 : decode cX8_seed 12 = .ok (.putfield 76, 3) := by decide +kernel
theorem dX8_seed_15 : decode cX8_seed 15 = .ok (.iload_n 2, 1) := by decide +kernel
theorem dX8_seed_16 : decode cX8_seed 16 = .ok (.ireturn, 1) := by decide +kernel
theorem dX8_corner_0 : decode cX8_corner 0 = .ok (.aload_n 0, 1) := by decide +kernel
theorem dX8_corner_1 : decode cX8_corner 1 = .ok (.getfield 73, 3) := by decide +kernel
theorem dX8_corner_4 : decode cX8_corner 4 = .ok (.ldc 80, 2) := by decide +kernel
theorem dX8_corner_6 : decode cX8_corner 6 = .ok (.imul, 1) := by decide +kernel
theorem dX8_corner_7 : decode cX8_corner 7 = .ok (.iload_n 1, 1) := by decide +kernel
theorem dX8_corner_8 : decode cX8_corner 8 = .ok (.ldc 81, 2) := by decide +kernel
theorem dX8_corner_10 : decode cX8_corner 10 = .ok (.imul, 1) := by decide +kernel
theorem dX8_corner_11 : decode cX8_corner 11 = .ok (.iadd, 1) := by decide +kernel
theorem dX8_corner_12 : decode cX8_corner 12 = .ok (.iload_n 2, 1) := by decide +kernel
theorem dX8_corner_13 : decode cX8_corner 13 = .ok (.ldc 82, 2) := by decide +kernel
theorem dX8_corner_15 : decode cX8_corner 15 = .ok (.imul, 1) := by decide +kernel
theorem dX8_corner_16 : decode cX8_corner 16 = .ok (.iadd, 1) := by decide +kernel
theorem dX8_corner_17 : decode cX8_corner 17 = .ok (.iload_n 3, 1) := by decide +kernel
theorem dX8_corner_18 : decode cX8_corner 18 = .ok (.ldc 83, 2) := by decide +kernel
theorem dX8_corner_20 : decode cX8_corner 20 = .ok (.imul, 1) := by decide +kernel
theorem dX8_corner_21 : decode cX8_corner 21 = .ok (.iadd, 1) := by decide +kernel
theorem dX8_corner_22 : decode cX8_corner 22 = .ok (.istore 4, 2) := by decide +kernel
theorem dX8_corner_24 : decode cX8_corner 24 = .ok (.iconst 0, 1) := by decide +kernel
theorem dX8_corner_25 : decode cX8_corner 25 = .ok (.istore 5, 2) := by decide +kernel
theorem dX8_corner_27 : decode cX8_corner 27 = .ok (.iload 5, 2) := by decide +kernel
theorem dX8_corner_29 : decode cX8_corner 29 = .ok (.iconst 2, 1) := by decide +kernel
theorem dX8_corner_30 : decode cX8_corner 30 = .ok (.if_icmp .ge 22, 3) := by decide +kernel
theorem dX8_corner_33 : decode cX8_corner 33 = .ok (.iload 4, 2) := by decide +kernel
theorem dX8_corner_35 : decode cX8_corner 35 = .ok (.iload 4, 2) := by decide +kernel
theorem dX8_corner_37 : decode cX8_corner 37 = .ok (.bipush 15, 2) := by decide +kernel
theorem dX8_corner_39 : decode cX8_corner 39 = .ok (.iushr, 1) := by decide +kernel
theorem dX8_corner_40 : decode cX8_corner 40 = .ok (.ixor, 1) := by decide +kernel
theorem dX8_corner_41 : decode cX8_corner 41 = .ok (.ldc 84, 2) := by decide +kernel
theorem dX8_corner_43 : decode cX8_corner 43 = .ok (.imul, 1) := by decide +kernel
theorem dX8_corner_44 : decode cX8_corner 44 = .ok (.istore 4, 2) := by decide +kernel
theorem dX8_corner_46 : decode cX8_corner 46 = .ok (.iinc 5 1, 3) := by decide +kernel
theorem dX8_corner_49 : decode cX8_corner 49 = .ok (.goto (-22), 3) := by decide +kernel
theorem dX8_corner_52 : decode cX8_corner 52 = .ok (.iload 4, 2) := by decide +kernel
theorem dX8_corner_54 : decode cX8_corner 54 = .ok (.bipush 16, 2) := by decide +kernel
theorem dX8_corner_56 : decode cX8_corner 56 = .ok (.iushr, 1) := by decide +kernel
theorem dX8_corner_57 : decode cX8_corner 57 = .ok (.sipush 255, 3) := by decide +kernel
theorem dX8_corner_60 : decode cX8_corner 60 = .ok (.iand, 1) := by decide +kernel
theorem dX8_corner_61 : decode cX8_corner 61 = .ok (.ireturn, 1) := by decide +kernel
theorem dX8_layer_0 : decode cX8_layer 0 = .ok (.iload_n 1, 1) := by decide +kernel
theorem dX8_layer_1 : decode cX8_layer 1 = .ok (.ifCond .ne 8, 3) := by decide +kernel
theorem dX8_layer_4 : decode cX8_layer 4 = .ok (.bipush 8, 2) := by decide +kernel
theorem dX8_layer_6 : decode cX8_layer 6 = .ok (.goto 13, 3) := by decide +kernel
theorem dX8_layer_9 : decode cX8_layer 9 = .ok (.iload_n 1, 1) := by decide +kernel
theorem dX8_layer_10 : decode cX8_layer 10 = .ok (.iconst 1, 1) := by decide +kernel
theorem dX8_layer_11 : decode cX8_layer 11 = .ok (.if_icmp .ne 7, 3) := by decide +kernel
theorem dX8_layer_14 : decode cX8_layer 14 = .ok (.iconst 4, 1) := by decide +kernel
theorem dX8_layer_15 : decode cX8_layer 15 = .ok (.goto 4, 3) := by decide +kernel
theorem dX8_layer_18 : decode cX8_layer 18 = .ok (.iconst 2, 1) := by decide +kernel
theorem dX8_layer_19 : decode cX8_layer 19 = .ok (.istore 4, 2) := by decide +kernel
theorem dX8_layer_21 : decode cX8_layer 21 = .ok (.iload_n 2, 1) := by decide +kernel
theorem dX8_layer_22 : decode cX8_layer 22 = .ok (.iload 4, 2) := by decide +kernel
theorem dX8_layer_24 : decode cX8_layer 24 = .ok (.idiv, 1) := by decide +kernel
theorem dX8_layer_25 : decode cX8_layer 25 = .ok (.istore 5, 2) := by decide +kernel
theorem dX8_layer_27 : decode cX8_layer 27 = .ok (.iload_n 3, 1) := by decide +kernel
theorem dX8_layer_28 : decode cX8_layer 28 = .ok (.iload 4, 2) := by decide +kernel
theorem dX8_layer_30 : decode cX8_layer 30 = .ok (.idiv, 1) := by decide +kernel
theorem dX8_layer_31 : decode cX8_layer 31 = .ok (.istore 6, 2) := by decide +kernel
theorem dX8_layer_33 : decode cX8_layer 33 = .ok (.iload_n 2, 1) := by decide +kernel
theorem dX8_layer_34 : decode cX8_layer 34 = .ok (.iload 4, 2) := by decide +kernel
theorem dX8_layer_36 : decode cX8_layer 36 = .ok (.irem, 1) := by decide +kernel
theorem dX8_layer_37 : decode cX8_layer 37 = .ok (.istore 7, 2) := by decide +kernel
theorem dX8_layer_39 : decode cX8_layer 39 = .ok (.iload_n 3, 1) := by decide +kernel
theorem dX8_layer_40 : decode cX8_layer 40 = .ok (.iload 4, 2) := by decide +kernel
theorem dX8_layer_42 : decode cX8_layer 42 = .ok (.irem, 1) := by decide +kernel
theorem dX8_layer_43 : decode cX8_layer 43 = .ok (.istore 8, 2) := by decide +kernel
theorem dX8_layer_45 : decode cX8_layer 45 = .ok (.aload_n 0, 1) := by decide +kernel
theorem dX8_layer_46 : decode cX8_layer 46 = .ok (.iload_n 1, 1) := by decide +kernel
theorem dX8_layer_47 : decode cX8_layer 47 = .ok (.iload 5, 2) := by decide +kernel
theorem dX8_layer_49 : decode cX8_layer 49 = .ok (.iload 6, 2) := by decide +kernel
theorem dX8_layer_51 : decode cX8_layer 51 = .ok (.invokevirtual 85, 3) := by decide +kernel
theorem dX8_layer_54 : decode cX8_layer 54 = .ok (.iload 4, 2) := by decide +kernel
theorem dX8_layer_56 : decode cX8_layer 56 = .ok (.iload 7, 2) := by decide +kernel
theorem dX8_layer_58 : decode cX8_layer 58 = .ok (.isub, 1) := by decide +kernel
theorem dX8_layer_59 : decode cX8_layer 59 = .ok (.imul, 1) := by decide +kernel
theorem dX8_layer_60 : decode cX8_layer 60 = .ok (.aload_n 0, 1) := by decide +kernel
theorem dX8_layer_61 : decode cX8_layer 61 = .ok (.iload_n 1, 1) := by decide +kernel
theorem dX8_layer_62 : decode cX8_layer 62 = .ok (.iload 5, 2) := by decide +kernel
theorem dX8_layer_64 : decode cX8_layer 64 = .ok (.iconst 1, 1) := by decide +kernel
theorem dX8_layer_65 : decode cX8_layer 65 = .ok (.iadd, 1) := by decide +kernel
theorem dX8_layer_66 : decode cX8_layer 66 = .ok (.iload 6, 2) := by decide +kernel
theorem dX8_layer_68 : decode cX8_layer 68 = .ok (.invokevirtual 85, 3) := by decide +kernel
theorem dX8_layer_71 : decode cX8_layer 71 = .ok (.iload 7, 2) := by decide +kernel
theorem dX8_layer_73 : decode cX8_layer 73 = .ok (.imul, 1) := by decide +kernel
theorem dX8_layer_74 : decode cX8_layer 74 = .ok (.iadd, 1) := by decide +kernel
theorem dX8_layer_75 : decode cX8_layer 75 = .ok (.istore 9, 2) := by decide +kernel
theorem dX8_layer_77 : decode cX8_layer 77 = .ok (.aload_n 0, 1) := by decide +kernel
theorem dX8_layer_78 : decode cX8_layer 78 = .ok (.iload_n 1, 1) := by decide +kernel
theorem dX8_layer_79 : decode cX8_layer 79 = .ok (.iload 5, 2) := by decide +kernel
theorem dX8_layer_81 : decode cX8_layer 81 = .ok (.iload 6, 2) := by decide +kernel
theorem dX8_layer_83 : decode cX8_layer 83 = .ok (.iconst 1, 1) := by decide +kernel
theorem dX8_layer_84 : decode cX8_layer 84 = .ok (.iadd, 1) := by decide +kernel
theorem dX8_layer_85 : decode cX8_layer 85 = .ok (.invokevirtual 85, 3) := by decide +kernel
theorem dX8_layer_88 : decode cX8_layer 88 = .ok (.iload 4, 2) := by decide +kernel
theorem dX8_layer_90 : decode cX8_layer 90 = .ok (.iload 7, 2) := by decide +kernel
theorem dX8_layer_92 : decode cX8_layer 92 = .ok (.isub, 1) := by decide +kernel
theorem dX8_layer_93 : decode cX8_layer 93 = .ok (.imul, 1) := by decide +kernel
theorem dX8_layer_94 : decode cX8_layer 94 = .ok (.aload_n 0, 1) := by decide +kernel
theorem dX8_layer_95 : decode cX8_layer 95 = .ok (.iload_n 1, 1) := by decide +kernel
theorem dX8_layer_96 : decode cX8_layer 96 = .ok (.iload 5, 2) := by decide +kernel
theorem dX8_layer_98 : decode cX8_layer 98 = .ok (.iconst 1, 1) := by decide +kernel
theorem dX8_layer_99 : decode cX8_layer 99 = .ok (.iadd, 1) := by decide +kernel
theorem dX8_layer_100 : decode cX8_layer 100 = .ok (.iload 6, 2) := by decide +kernel
theorem dX8_layer_102 : decode cX8_layer 102 = .ok (.iconst 1, 1) := by decide +kernel
theorem dX8_layer_103 : decode cX8_layer 103 = .ok (.iadd, 1) := by decide +kernel
theorem dX8_layer_104 : decode cX8_layer 104 = .ok (.invokevirtual 85, 3) := by decide +kernel
theorem dX8_layer_107 : decode cX8_layer 107 = .ok (.iload 7, 2) := by decide +kernel
theorem dX8_layer_109 : decode cX8_layer 109 = .ok (.imul, 1) := by decide +kernel
theorem dX8_layer_110 : decode cX8_layer 110 = .ok (.iadd, 1) := by decide +kernel
theorem dX8_layer_111 : decode cX8_layer 111 = .ok (.istore 10, 2) := by decide +kernel
theorem dX8_layer_113 : decode cX8_layer 113 = .ok (.iload 9, 2) := by decide +kernel
theorem dX8_layer_115 : decode cX8_layer 115 = .ok (.iload 4, 2) := by decide +kernel
theorem dX8_layer_117 : decode cX8_layer 117 = .ok (.iload 8, 2) := by decide +kernel
theorem dX8_layer_119 : decode cX8_layer 119 = .ok (.isub, 1) := by decide +kernel
theorem dX8_layer_120 : decode cX8_layer 120 = .ok (.imul, 1) := by decide +kernel
theorem dX8_layer_121 : decode cX8_layer 121 = .ok (.iload 10, 2) := by decide +kernel
theorem dX8_layer_123 : decode cX8_layer 123 = .ok (.iload 8, 2) := by decide +kernel
theorem dX8_layer_125 : decode cX8_layer 125 = .ok (.imul, 1) := by decide +kernel
theorem dX8_layer_126 : decode cX8_layer 126 = .ok (.iadd, 1) := by decide +kernel
theorem dX8_layer_127 : decode cX8_layer 127 = .ok (.iload 4, 2) := by decide +kernel
theorem dX8_layer_129 : decode cX8_layer 129 = .ok (.iload 4, 2) := by decide +kernel
theorem dX8_layer_131 : decode cX8_layer 131 = .ok (.imul, 1) := by decide +kernel
theorem dX8_layer_132 : decode cX8_layer 132 = .ok (.idiv, 1) := by decide +kernel
theorem dX8_layer_133 : decode cX8_layer 133 = .ok (.ireturn, 1) := by decide +kernel
theorem dX8_groundAt_0 : decode cX8_groundAt 0 = .ok (.iconst 4, 1) := by decide +kernel
theorem dX8_groundAt_1 : decode cX8_groundAt 1 = .ok (.aload_n 0, 1) := by decide +kernel
theorem dX8_groundAt_2 : decode cX8_groundAt 2 = .ok (.iconst 0, 1) := by decide +kernel
theorem dX8_groundAt_3 : decode cX8_groundAt 3 = .ok (.iload_n 1, 1) := by decide +kernel
theorem dX8_groundAt_4 : decode cX8_groundAt 4 = .ok (.iload_n 2, 1) := by decide +kernel
theorem dX8_groundAt_5 : decode cX8_groundAt 5 = .ok (.invokevirtual 89, 3) := by decide +kernel
theorem dX8_groundAt_8 : decode cX8_groundAt 8 = .ok (.imul, 1) := by decide +kernel
theorem dX8_groundAt_9 : decode cX8_groundAt 9 = .ok (.iconst 2, 1) := by decide +kernel
theorem dX8_groundAt_10 : decode cX8_groundAt 10 = .ok (.aload_n 0, 1) := by decide +kernel
theorem dX8_groundAt_11 : decode cX8_groundAt 11 = .ok (.iconst 1, 1) := by decide +kernel
theorem dX8_groundAt_12 : decode cX8_groundAt 12 = .ok (.iload_n 1, 1) := by decide +kernel
theorem dX8_groundAt_13 : decode cX8_groundAt 13 = .ok (.iload_n 2, 1) := by decide +kernel
theorem dX8_groundAt_14 : decode cX8_groundAt 14 = .ok (.invokevirtual 89, 3) := by decide +kernel
theorem dX8_groundAt_17 : decode cX8_groundAt 17 = .ok (.imul, 1) := by decide +kernel
theorem dX8_groundAt_18 : decode cX8_groundAt 18 = .ok (.iadd, 1) := by decide +kernel
theorem dX8_groundAt_19 : decode cX8_groundAt 19 = .ok (.aload_n 0, 1) := by decide +kernel
theorem dX8_groundAt_20 : decode cX8_groundAt 20 = .ok (.iconst 2, 1) := by decide +kernel
theorem dX8_groundAt_21 : decode cX8_groundAt 21 = .ok (.iload_n 1, 1) := by decide +kernel
theorem dX8_groundAt_22 : decode cX8_groundAt 22 = .ok (.iload_n 2, 1) := by decide +kernel
theorem dX8_groundAt_23 : decode cX8_groundAt 23 = .ok (.invokevirtual 89, 3) := by decide +kernel
theorem dX8_groundAt_26 : decode cX8_groundAt 26 = .ok (.iadd, 1) := by decide +kernel
theorem dX8_groundAt_27 : decode cX8_groundAt 27 = .ok (.bipush 7, 2) := by decide +kernel
theorem dX8_groundAt_29 : decode cX8_groundAt 29 = .ok (.idiv, 1) := by decide +kernel
theorem dX8_groundAt_30 : decode cX8_groundAt 30 = .ok (.ireturn, 1) := by decide +kernel
theorem dX8_ground_0 : decode cX8_ground 0 = .ok (.iload_n 1, 1) := by decide +kernel
theorem dX8_ground_1 : decode cX8_ground 1 = .ok (.iconst 0, 1) := by decide +kernel
theorem dX8_ground_2 : decode cX8_ground 2 = .ok (.ldc 92, 2) := by decide +kernel
theorem dX8_ground_4 : decode cX8_ground 4 = .ok (.invokestatic 69, 3) := by decide +kernel
theorem dX8_ground_7 : decode cX8_ground 7 = .ok (.ifCond .eq 22, 3) := by decide +kernel
theorem dX8_ground_10 : decode cX8_ground 10 = .ok (.iload_n 2, 1) := by decide +kernel
theorem dX8_ground_11 : decode cX8_ground 11 = .ok (.iconst 0, 1) := by decide +kernel
theorem dX8_ground_12 : decode cX8_ground 12 = .ok (.ldc 92, 2) := by decide +kernel
theorem dX8_ground_14 : decode cX8_ground 14 = .ok (.invokestatic 69, 3) := by decide +kernel
theorem dX8_ground_17 : decode cX8_ground 17 = .ok (.ifCond .eq 12, 3) := by decide +kernel
theorem dX8_ground_20 : decode cX8_ground 20 = .ok (.aload_n 0, 1) := by decide +kernel
theorem dX8_ground_21 : decode cX8_ground 21 = .ok (.iload_n 1, 1) := by decide +kernel
theorem dX8_ground_22 : decode cX8_ground 22 = .ok (.iload_n 2, 1) := by decide +kernel
theorem dX8_ground_23 : decode cX8_ground 23 = .ok (.invokevirtual 93, 3) := by decide +kernel
theorem dX8_ground_26 : decode cX8_ground 26 = .ok (.goto 5, 3) := by decide +kernel
theorem dX8_ground_29 : decode cX8_ground 29 = .ok (.bipush (-2), 2) := by decide +kernel
theorem dX8_ground_31 : decode cX8_ground 31 = .ok (.ireturn, 1) := by decide +kernel
theorem dX8_size_0 : decode cX8_size 0 = .ok (.iload_n 1, 1) := by decide +kernel
theorem dX8_size_1 : decode cX8_size 1 = .ok (.iconst 4, 1) := by decide +kernel
theorem dX8_size_2 : decode cX8_size 2 = .ok (.bipush 24, 2) := by decide +kernel
theorem dX8_size_4 : decode cX8_size 4 = .ok (.invokestatic 69, 3) := by decide +kernel
theorem dX8_size_7 : decode cX8_size 7 = .ok (.ifCond .ne 6, 3) := by decide +kernel
theorem dX8_size_10 : decode cX8_size 10 = .ok (.bipush (-2), 2) := by decide +kernel
theorem dX8_size_12 : decode cX8_size 12 = .ok (.ireturn, 1) := by decide +kernel
theorem dX8_size_13 : decode cX8_size 13 = .ok (.aload_n 0, 1) := by decide +kernel
theorem dX8_size_14 : decode cX8_size 14 = .ok (.getfield 7, 3) := by decide +kernel
theorem dX8_size_17 : decode cX8_size 17 = .ok (.istore_n 2, 1) := by decide +kernel
theorem dX8_size_18 : decode cX8_size 18 = .ok (.aload_n 0, 1) := by decide +kernel
theorem dX8_size_19 : decode cX8_size 19 = .ok (.iload_n 1, 1) := by decide +kernel
theorem dX8_size_20 : decode cX8_size 20 = .ok (.putfield 7, 3) := by decide +kernel
theorem dX8_size_23 : decode cX8_size 23 = .ok (.aload_n 0, 1) := by decide +kernel
theorem dX8_size_24 : decode cX8_size 24 = .ok (.iconst 0, 1) := by decide +kernel
theorem dX8_size_25 : decode cX8_size 25 = .ok (.putfield 76, 3) := by decide +kernel
theorem dX8_size_28 : decode cX8_size 28 = .ok (.iload_n 2, 1) := by decide +kernel
theorem dX8_size_29 : decode cX8_size 29 = .ok (.ireturn, 1) := by decide +kernel
theorem dX8_window_0 : decode cX8_window 0 = .ok (.iload_n 1, 1) := by decide +kernel
theorem dX8_window_1 : decode cX8_window 1 = .ok (.iconst 0, 1) := by decide +kernel
theorem dX8_window_2 : decode cX8_window 2 = .ok (.ldc 97, 2) := by decide +kernel
theorem dX8_window_4 : decode cX8_window 4 = .ok (.invokestatic 69, 3) := by decide +kernel
theorem dX8_window_7 : decode cX8_window 7 = .ok (.ifCond .eq 13, 3) := by decide +kernel
theorem dX8_window_10 : decode cX8_window 10 = .ok (.iload_n 2, 1) := by decide +kernel
theorem dX8_window_11 : decode cX8_window 11 = .ok (.iconst 0, 1) := by decide +kernel
theorem dX8_window_12 : decode cX8_window 12 = .ok (.ldc 97, 2) := by decide +kernel
theorem dX8_window_14 : decode cX8_window 14 = .ok (.invokestatic 69, 3) := by decide +kernel
theorem dX8_window_17 : decode cX8_window 17 = .ok (.ifCond .ne 6, 3) := by decide +kernel
theorem dX8_window_20 : decode cX8_window 20 = .ok (.bipush (-2), 2) := by decide +kernel
theorem dX8_window_22 : decode cX8_window 22 = .ok (.ireturn, 1) := by decide +kernel
theorem dX8_window_23 : decode cX8_window 23 = .ok (.aload_n 0, 1) := by decide +kernel
theorem dX8_window_24 : decode cX8_window 24 = .ok (.iload_n 1, 1) := by decide +kernel
theorem dX8_window_25 : decode cX8_window 25 = .ok (.putfield 98, 3) := by decide +kernel
theorem dX8_window_28 : decode cX8_window 28 = .ok (.aload_n 0, 1) := by decide +kernel
theorem dX8_window_29 : decode cX8_window 29 = .ok (.iload_n 2, 1) := by decide +kernel
theorem dX8_window_30 : decode cX8_window 30 = .ok (.putfield 101, 3) := by decide +kernel
theorem dX8_window_33 : decode cX8_window 33 = .ok (.aload_n 0, 1) := by decide +kernel
theorem dX8_window_34 : decode cX8_window 34 = .ok (.iconst 0, 1) := by decide +kernel
theorem dX8_window_35 : decode cX8_window 35 = .ok (.putfield 76, 3) := by decide +kernel
theorem dX8_window_38 : decode cX8_window 38 = .ok (.iconst 1, 1) := by decide +kernel
theorem dX8_window_39 : decode cX8_window 39 = .ok (.ireturn, 1) := by decide +kernel
theorem dX8_change_0 : decode cX8_change 0 = .ok (.aload_n 0, 1) := by decide +kernel
theorem dX8_change_1 : decode cX8_change 1 = .ok (.iload_n 1, 1) := by decide +kernel
theorem dX8_change_2 : decode cX8_change 2 = .ok (.invokevirtual 104, 3) := by decide +kernel
theorem dX8_change_5 : decode cX8_change 5 = .ok (.ifCond .ne 5, 3) := by decide +kernel
theorem dX8_change_8 : decode cX8_change 8 = .ok (.iconst (-1), 1) := by decide +kernel
theorem dX8_change_9 : decode cX8_change 9 = .ok (.ireturn, 1) := by decide +kernel
theorem dX8_change_10 : decode cX8_change 10 = .ok (.iload_n 2, 1) := by decide +kernel
theorem dX8_change_11 : decode cX8_change 11 = .ok (.sipush (-400), 3) := by decide +kernel
theorem dX8_change_14 : decode cX8_change 14 = .ok (.sipush 400, 3) := by decide +kernel
theorem dX8_change_17 : decode cX8_change 17 = .ok (.invokestatic 69, 3) := by decide +kernel
theorem dX8_change_20 : decode cX8_change 20 = .ok (.ifCond .eq 7, 3) := by decide +kernel
theorem dX8_change_23 : decode cX8_change 23 = .ok (.iload_n 2, 1) := by decide +kernel
theorem dX8_change_24 : decode cX8_change 24 = .ok (.ifCond .ne 6, 3) := by decide +kernel
theorem dX8_change_27 : decode cX8_change 27 = .ok (.bipush (-2), 2) := by decide +kernel
theorem dX8_change_29 : decode cX8_change 29 = .ok (.ireturn, 1) := by decide +kernel
theorem dX8_change_30 : decode cX8_change 30 = .ok (.aload_n 0, 1) := by decide +kernel
theorem dX8_change_31 : decode cX8_change 31 = .ok (.getfield 108, 3) := by decide +kernel
theorem dX8_change_34 : decode cX8_change 34 = .ok (.bipush 30, 2) := by decide +kernel
theorem dX8_change_36 : decode cX8_change 36 = .ok (.if_icmp .ne 6, 3) := by decide +kernel
theorem dX8_change_39 : decode cX8_change 39 = .ok (.bipush (-4), 2) := by decide +kernel
theorem dX8_change_41 : decode cX8_change 41 = .ok (.ireturn, 1) := by decide +kernel
theorem dX8_change_42 : decode cX8_change 42 = .ok (.aload_n 0, 1) := by decide +kernel
theorem dX8_change_43 : decode cX8_change 43 = .ok (.getfield 17, 3) := by decide +kernel
theorem dX8_change_46 : decode cX8_change 46 = .ok (.aload_n 0, 1) := by decide +kernel
theorem dX8_change_47 : decode cX8_change 47 = .ok (.getfield 108, 3) := by decide +kernel
theorem dX8_change_50 : decode cX8_change 50 = .ok (.aload_n 0, 1) := by decide +kernel
theorem dX8_change_51 : decode cX8_change 51 = .ok (.getfield 98, 3) := by decide +kernel
theorem dX8_change_54 : decode cX8_change 54 = .ok (.iload_n 1, 1) := by decide +kernel
theorem dX8_change_55 : decode cX8_change 55 = .ok (.aload_n 0, 1) := by decide +kernel
theorem dX8_change_56 : decode cX8_change 56 = .ok (.getfield 7, 3) := by decide +kernel
theorem dX8_change_59 : decode cX8_change 59 = .ok (.irem, 1) := by decide +kernel
theorem dX8_change_60 : decode cX8_change 60 = .ok (.iadd, 1) := by decide +kernel
theorem dX8_change_61 : decode cX8_change 61 = .ok (.iastore, 1) := by decide +kernel
theorem dX8_change_62 : decode cX8_change 62 = .ok (.aload_n 0, 1) := by decide +kernel
theorem dX8_change_63 : decode cX8_change 63 = .ok (.getfield 20, 3) := by decide +kernel
theorem dX8_change_66 : decode cX8_change 66 = .ok (.aload_n 0, 1) := by decide +kernel
theorem dX8_change_67 : decode cX8_change 67 = .ok (.getfield 108, 3) := by decide +kernel
theorem dX8_change_70 : decode cX8_change 70 = .ok (.aload_n 0, 1) := by decide +kernel
theorem dX8_change_71 : decode cX8_change 71 = .ok (.getfield 101, 3) := by decide +kernel
theorem dX8_change_74 : decode cX8_change 74 = .ok (.iload_n 1, 1) := by decide +kernel
theorem dX8_change_75 : decode cX8_change 75 = .ok (.aload_n 0, 1) := by decide +kernel
theorem dX8_change_76 : decode cX8_change 76 = .ok (.getfield 7, 3) := by decide +kernel
theorem dX8_change_79 : decode cX8_change 79 = .ok (.idiv, 1) := by decide +kernel
theorem dX8_change_80 : decode cX8_change 80 = .ok (.iadd, 1) := by decide +kernel
theorem dX8_change_81 : decode cX8_change 81 = .ok (.iastore, 1) := by decide +kernel
theorem dX8_change_82 : decode cX8_change 82 = .ok (.aload_n 0, 1) := by decide +kernel
theorem dX8_change_83 : decode cX8_change 83 = .ok (.getfield 23, 3) := by decide +kernel
theorem dX8_change_86 : decode cX8_change 86 = .ok (.aload_n 0, 1) := by decide +kernel
theorem dX8_change_87 : decode cX8_change 87 = .ok (.getfield 108, 3) := by decide +kernel
theorem dX8_change_90 : decode cX8_change 90 = .ok (.iload_n 2, 1) := by decide +kernel
theorem dX8_change_91 : decode cX8_change 91 = .ok (.iastore, 1) := by decide +kernel
theorem dX8_change_92 : decode cX8_change 92 = .ok (.aload_n 0, 1) := by decide +kernel
theorem dX8_change_93 : decode cX8_change 93 = .ok (.dup, 1) := by decide +kernel
theorem dX8_change_94 : decode cX8_change 94 = .ok (.getfield 108, 3) := by decide +kernel
theorem dX8_change_97 : decode cX8_change 97 = .ok (.iconst 1, 1) := by decide +kernel
theorem dX8_change_98 : decode cX8_change 98 = .ok (.iadd, 1) := by decide +kernel
theorem dX8_change_99 : decode cX8_change 99 = .ok (.putfield 108, 3) := by decide +kernel
theorem dX8_change_102 : decode cX8_change 102 = .ok (.aload_n 0, 1) := by decide +kernel
theorem dX8_change_103 : decode cX8_change 103 = .ok (.iconst 0, 1) := by decide +kernel
theorem dX8_change_104 : decode cX8_change 104 = .ok (.putfield 76, 3) := by decide +kernel
theorem dX8_change_107 : decode cX8_change 107 = .ok (.aload_n 0, 1) := by decide +kernel
theorem dX8_change_108 : decode cX8_change 108 = .ok (.getfield 108, 3) := by decide +kernel
theorem dX8_change_111 : decode cX8_change 111 = .ok (.ireturn, 1) := by decide +kernel
theorem dX8_changed_0 : decode cX8_changed 0 = .ok (.iload_n 1, 1) := by decide +kernel
theorem dX8_changed_1 : decode cX8_changed 1 = .ok (.iconst 0, 1) := by decide +kernel
theorem dX8_changed_2 : decode cX8_changed 2 = .ok (.aload_n 0, 1) := by decide +kernel
theorem dX8_changed_3 : decode cX8_changed 3 = .ok (.getfield 108, 3) := by decide +kernel
theorem dX8_changed_6 : decode cX8_changed 6 = .ok (.iconst 1, 1) := by decide +kernel
theorem dX8_changed_7 : decode cX8_changed 7 = .ok (.isub, 1) := by decide +kernel
theorem dX8_changed_8 : decode cX8_changed 8 = .ok (.invokestatic 69, 3) := by decide +kernel
theorem dX8_changed_11 : decode cX8_changed 11 = .ok (.ifCond .ne 7, 3) := by decide +kernel
theorem dX8_changed_14 : decode cX8_changed 14 = .ok (.sipush (-1001), 3) := by decide +kernel
theorem dX8_changed_17 : decode cX8_changed 17 = .ok (.ireturn, 1) := by decide +kernel
theorem dX8_changed_18 : decode cX8_changed 18 = .ok (.iload_n 2, 1) := by decide +kernel
theorem dX8_changed_19 : decode cX8_changed 19 = .ok (.ifCond .ne 12, 3) := by decide +kernel
theorem dX8_changed_22 : decode cX8_changed 22 = .ok (.aload_n 0, 1) := by decide +kernel
theorem dX8_changed_23 : decode cX8_changed 23 = .ok (.getfield 17, 3) := by decide +kernel
theorem dX8_changed_26 : decode cX8_changed 26 = .ok (.iload_n 1, 1) := by decide +kernel
theorem dX8_changed_27 : decode cX8_changed 27 = .ok (.iaload, 1) := by decide +kernel
theorem dX8_changed_28 : decode cX8_changed 28 = .ok (.goto 34, 3) := by decide +kernel
theorem dX8_changed_31 : decode cX8_changed 31 = .ok (.iload_n 2, 1) := by decide +kernel
theorem dX8_changed_32 : decode cX8_changed 32 = .ok (.iconst 1, 1) := by decide +kernel
theorem dX8_changed_33 : decode cX8_changed 33 = .ok (.if_icmp .ne 12, 3) := by decide +kernel
theorem dX8_changed_36 : decode cX8_changed 36 = .ok (.aload_n 0, 1) := by decide +kernel
theorem dX8_changed_37 : decode cX8_changed 37 = .ok (.getfield 20, 3) := by decide +kernel
theorem dX8_changed_40 : decode cX8_changed 40 = .ok (.iload_n 1, 1) := by decide +kernel
theorem dX8_changed_41 : decode cX8_changed 41 = .ok (.iaload, 1) := by decide +kernel
theorem dX8_changed_42 : decode cX8_changed 42 = .ok (.goto 20, 3) := by decide +kernel
theorem dX8_changed_45 : decode cX8_changed 45 = .ok (.iload_n 2, 1) := by decide +kernel
theorem dX8_changed_46 : decode cX8_changed 46 = .ok (.iconst 2, 1) := by decide +kernel
theorem dX8_changed_47 : decode cX8_changed 47 = .ok (.if_icmp .ne 12, 3) := by decide +kernel
theorem dX8_changed_50 : decode cX8_changed 50 = .ok (.aload_n 0, 1) := by decide +kernel
theorem dX8_changed_51 : decode cX8_changed 51 = .ok (.getfield 23, 3) := by decide +kernel
theorem dX8_changed_54 : decode cX8_changed 54 = .ok (.iload_n 1, 1) := by decide +kernel
theorem dX8_changed_55 : decode cX8_changed 55 = .ok (.iaload, 1) := by decide +kernel
theorem dX8_changed_56 : decode cX8_changed 56 = .ok (.goto 6, 3) := by decide +kernel
theorem dX8_changed_59 : decode cX8_changed 59 = .ok (.sipush (-1002), 3) := by decide +kernel
theorem dX8_changed_62 : decode cX8_changed 62 = .ok (.ireturn, 1) := by decide +kernel
theorem dX8_undo_0 : decode cX8_undo 0 = .ok (.aload_n 0, 1) := by decide +kernel
theorem dX8_undo_1 : decode cX8_undo 1 = .ok (.getfield 108, 3) := by decide +kernel
theorem dX8_undo_4 : decode cX8_undo 4 = .ok (.ifCond .ne 5, 3) := by decide +kernel
theorem dX8_undo_7 : decode cX8_undo 7 = .ok (.iconst (-1), 1) := by decide +kernel
theorem dX8_undo_8 : decode cX8_undo 8 = .ok (.ireturn, 1) := by decide +kernel
theorem dX8_undo_9 : decode cX8_undo 9 = .ok (.aload_n 0, 1) := by decide +kernel
theorem dX8_undo_10 : decode cX8_undo 10 = .ok (.dup, 1) := by decide +kernel
theorem dX8_undo_11 : decode cX8_undo 11 = .ok (.getfield 108, 3) := by decide +kernel
theorem dX8_undo_14 : decode cX8_undo 14 = .ok (.iconst 1, 1) := by decide +kernel
theorem dX8_undo_15 : decode cX8_undo 15 = .ok (.isub, 1) := by decide +kernel
theorem dX8_undo_16 : decode cX8_undo 16 = .ok (.putfield 108, 3) := by decide +kernel
theorem dX8_undo_19 : decode cX8_undo 19 = .ok (.aload_n 0, 1) := by decide +kernel
theorem dX8_undo_20 : decode cX8_undo 20 = .ok (.iconst 0, 1) := by decide +kernel
theorem dX8_undo_21 : decode cX8_undo 21 = .ok (.putfield 76, 3) := by decide +kernel
theorem dX8_undo_24 : decode cX8_undo 24 = .ok (.aload_n 0, 1) := by decide +kernel
theorem dX8_undo_25 : decode cX8_undo 25 = .ok (.getfield 108, 3) := by decide +kernel
theorem dX8_undo_28 : decode cX8_undo 28 = .ok (.ireturn, 1) := by decide +kernel
theorem dX8_rule_0 : decode cX8_rule 0 = .ok (.iload_n 1, 1) := by decide +kernel
theorem dX8_rule_1 : decode cX8_rule 1 = .ok (.ifCond .ne 14, 3) := by decide +kernel
theorem dX8_rule_4 : decode cX8_rule 4 = .ok (.iload_n 2, 1) := by decide +kernel
theorem dX8_rule_5 : decode cX8_rule 5 = .ok (.iconst 0, 1) := by decide +kernel
theorem dX8_rule_6 : decode cX8_rule 6 = .ok (.sipush 255, 3) := by decide +kernel
theorem dX8_rule_9 : decode cX8_rule 9 = .ok (.invokestatic 69, 3) := by decide +kernel
theorem dX8_rule_12 : decode cX8_rule 12 = .ok (.ifCond .ne 49, 3) := by decide +kernel
theorem dX8_rule_15 : decode cX8_rule 15 = .ok (.iload_n 1, 1) := by decide +kernel
theorem dX8_rule_16 : decode cX8_rule 16 = .ok (.iconst 1, 1) := by decide +kernel
theorem dX8_rule_17 : decode cX8_rule 17 = .ok (.if_icmp .ne 14, 3) := by decide +kernel
theorem dX8_rule_20 : decode cX8_rule 20 = .ok (.iload_n 2, 1) := by decide +kernel
theorem dX8_rule_21 : decode cX8_rule 21 = .ok (.iconst 2, 1) := by decide +kernel
theorem dX8_rule_22 : decode cX8_rule 22 = .ok (.sipush 200, 3) := by decide +kernel
theorem dX8_rule_25 : decode cX8_rule 25 = .ok (.invokestatic 69, 3) := by decide +kernel
theorem dX8_rule_28 : decode cX8_rule 28 = .ok (.ifCond .ne 33, 3) := by decide +kernel
theorem dX8_rule_31 : decode cX8_rule 31 = .ok (.iload_n 1, 1) := by decide +kernel
theorem dX8_rule_32 : decode cX8_rule 32 = .ok (.iconst 2, 1) := by decide +kernel
theorem dX8_rule_33 : decode cX8_rule 33 = .ok (.if_icmp .ne 13, 3) := by decide +kernel
theorem dX8_rule_36 : decode cX8_rule 36 = .ok (.iload_n 2, 1) := by decide +kernel
theorem dX8_rule_37 : decode cX8_rule 37 = .ok (.iconst 1, 1) := by decide +kernel
theorem dX8_rule_38 : decode cX8_rule 38 = .ok (.bipush 12, 2) := by decide +kernel
theorem dX8_rule_40 : decode cX8_rule 40 = .ok (.invokestatic 69, 3) := by decide +kernel
theorem dX8_rule_43 : decode cX8_rule 43 = .ok (.ifCond .ne 18, 3) := by decide +kernel
theorem dX8_rule_46 : decode cX8_rule 46 = .ok (.iload_n 1, 1) := by decide +kernel
theorem dX8_rule_47 : decode cX8_rule 47 = .ok (.iconst 3, 1) := by decide +kernel
theorem dX8_rule_48 : decode cX8_rule 48 = .ok (.if_icmp .ne 17, 3) := by decide +kernel
theorem dX8_rule_51 : decode cX8_rule 51 = .ok (.iload_n 2, 1) := by decide +kernel
theorem dX8_rule_52 : decode cX8_rule 52 = .ok (.iconst 0, 1) := by decide +kernel
theorem dX8_rule_53 : decode cX8_rule 53 = .ok (.bipush 100, 2) := by decide +kernel
theorem dX8_rule_55 : decode cX8_rule 55 = .ok (.invokestatic 69, 3) := by decide +kernel
theorem dX8_rule_58 : decode cX8_rule 58 = .ok (.ifCond .eq 7, 3) := by decide +kernel
theorem dX8_rule_61 : decode cX8_rule 61 = .ok (.iconst 1, 1) := by decide +kernel
theorem dX8_rule_62 : decode cX8_rule 62 = .ok (.goto 4, 3) := by decide +kernel
theorem dX8_rule_65 : decode cX8_rule 65 = .ok (.iconst 0, 1) := by decide +kernel
theorem dX8_rule_66 : decode cX8_rule 66 = .ok (.istore_n 3, 1) := by decide +kernel
theorem dX8_rule_67 : decode cX8_rule 67 = .ok (.iload_n 3, 1) := by decide +kernel
theorem dX8_rule_68 : decode cX8_rule 68 = .ok (.ifCond .ne 6, 3) := by decide +kernel
theorem dX8_rule_71 : decode cX8_rule 71 = .ok (.bipush (-2), 2) := by decide +kernel
theorem dX8_rule_73 : decode cX8_rule 73 = .ok (.ireturn, 1) := by decide +kernel
theorem dX8_rule_74 : decode cX8_rule 74 = .ok (.aload_n 0, 1) := by decide +kernel
theorem dX8_rule_75 : decode cX8_rule 75 = .ok (.getfield 13, 3) := by decide +kernel
theorem dX8_rule_78 : decode cX8_rule 78 = .ok (.iload_n 1, 1) := by decide +kernel
theorem dX8_rule_79 : decode cX8_rule 79 = .ok (.iaload, 1) := by decide +kernel
theorem dX8_rule_80 : decode cX8_rule 80 = .ok (.istore 4, 2) := by decide +kernel
theorem dX8_rule_82 : decode cX8_rule 82 = .ok (.aload_n 0, 1) := by decide +kernel
theorem dX8_rule_83 : decode cX8_rule 83 = .ok (.getfield 13, 3) := by decide +kernel
theorem dX8_rule_86 : decode cX8_rule 86 = .ok (.iload_n 1, 1) := by decide +kernel
theorem dX8_rule_87 : decode cX8_rule 87 = .ok (.iload_n 2, 1) := by decide +kernel
theorem dX8_rule_88 : decode cX8_rule 88 = .ok (.iastore, 1) := by decide +kernel
theorem dX8_rule_89 : decode cX8_rule 89 = .ok (.aload_n 0, 1) := by decide +kernel
theorem dX8_rule_90 : decode cX8_rule 90 = .ok (.iconst 0, 1) := by decide +kernel
theorem dX8_rule_91 : decode cX8_rule 91 = .ok (.putfield 76, 3) := by decide +kernel
theorem dX8_rule_94 : decode cX8_rule 94 = .ok (.iload 4, 2) := by decide +kernel
theorem dX8_rule_96 : decode cX8_rule 96 = .ok (.ireturn, 1) := by decide +kernel
theorem dX8_beside_0 : decode cX8_beside 0 = .ok (.iload_n 1, 1) := by decide +kernel
theorem dX8_beside_1 : decode cX8_beside 1 = .ok (.aload_n 0, 1) := by decide +kernel
theorem dX8_beside_2 : decode cX8_beside 2 = .ok (.getfield 7, 3) := by decide +kernel
theorem dX8_beside_5 : decode cX8_beside 5 = .ok (.irem, 1) := by decide +kernel
theorem dX8_beside_6 : decode cX8_beside 6 = .ok (.iload_n 2, 1) := by decide +kernel
theorem dX8_beside_7 : decode cX8_beside 7 = .ok (.iconst 1, 1) := by decide +kernel
theorem dX8_beside_8 : decode cX8_beside 8 = .ok (.if_icmp .ne 7, 3) := by decide +kernel
theorem dX8_beside_11 : decode cX8_beside 11 = .ok (.iconst (-1), 1) := by decide +kernel
theorem dX8_beside_12 : decode cX8_beside 12 = .ok (.goto 13, 3) := by decide +kernel
theorem dX8_beside_15 : decode cX8_beside 15 = .ok (.iload_n 2, 1) := by decide +kernel
theorem dX8_beside_16 : decode cX8_beside 16 = .ok (.iconst 2, 1) := by decide +kernel
theorem dX8_beside_17 : decode cX8_beside 17 = .ok (.if_icmp .ne 7, 3) := by decide +kernel
theorem dX8_beside_20 : decode cX8_beside 20 = .ok (.iconst 1, 1) := by decide +kernel
theorem dX8_beside_21 : decode cX8_beside 21 = .ok (.goto 4, 3) := by decide +kernel
theorem dX8_beside_24 : decode cX8_beside 24 = .ok (.iconst 0, 1) := by decide +kernel
theorem dX8_beside_25 : decode cX8_beside 25 = .ok (.iadd, 1) := by decide +kernel
theorem dX8_beside_26 : decode cX8_beside 26 = .ok (.istore_n 3, 1) := by decide +kernel
theorem dX8_beside_27 : decode cX8_beside 27 = .ok (.iload_n 1, 1) := by decide +kernel
theorem dX8_beside_28 : decode cX8_beside 28 = .ok (.aload_n 0, 1) := by decide +kernel
theorem dX8_beside_29 : decode cX8_beside 29 = .ok (.getfield 7, 3) := by decide +kernel
theorem dX8_beside_32 : decode cX8_beside 32 = .ok (.idiv, 1) := by decide +kernel
theorem dX8_beside_33 : decode cX8_beside 33 = .ok (.iload_n 2, 1) := by decide +kernel
theorem dX8_beside_34 : decode cX8_beside 34 = .ok (.ifCond .ne 7, 3) := by decide +kernel
theorem dX8_beside_37 : decode cX8_beside 37 = .ok (.iconst (-1), 1) := by decide +kernel
theorem dX8_beside_38 : decode cX8_beside 38 = .ok (.goto 13, 3) := by decide +kernel
theorem dX8_beside_41 : decode cX8_beside 41 = .ok (.iload_n 2, 1) := by decide +kernel
theorem dX8_beside_42 : decode cX8_beside 42 = .ok (.iconst 3, 1) := by decide +kernel
theorem dX8_beside_43 : decode cX8_beside 43 = .ok (.if_icmp .ne 7, 3) := by decide +kernel
theorem dX8_beside_46 : decode cX8_beside 46 = .ok (.iconst 1, 1) := by decide +kernel
theorem dX8_beside_47 : decode cX8_beside 47 = .ok (.goto 4, 3) := by decide +kernel
theorem dX8_beside_50 : decode cX8_beside 50 = .ok (.iconst 0, 1) := by decide +kernel
theorem dX8_beside_51 : decode cX8_beside 51 = .ok (.iadd, 1) := by decide +kernel
theorem dX8_beside_52 : decode cX8_beside 52 = .ok (.istore 4, 2) := by decide +kernel
theorem dX8_beside_54 : decode cX8_beside 54 = .ok (.iload_n 3, 1) := by decide +kernel
theorem dX8_beside_55 : decode cX8_beside 55 = .ok (.iconst 0, 1) := by decide +kernel
theorem dX8_beside_56 : decode cX8_beside 56 = .ok (.aload_n 0, 1) := by decide +kernel
theorem dX8_beside_57 : decode cX8_beside 57 = .ok (.getfield 7, 3) := by decide +kernel
theorem dX8_beside_60 : decode cX8_beside 60 = .ok (.iconst 1, 1) := by decide +kernel
theorem dX8_beside_61 : decode cX8_beside 61 = .ok (.isub, 1) := by decide +kernel
theorem dX8_beside_62 : decode cX8_beside 62 = .ok (.invokestatic 69, 3) := by decide +kernel
theorem dX8_beside_65 : decode cX8_beside 65 = .ok (.ifCond .eq 30, 3) := by decide +kernel
theorem dX8_beside_68 : decode cX8_beside 68 = .ok (.iload 4, 2) := by decide +kernel
theorem dX8_beside_70 : decode cX8_beside 70 = .ok (.iconst 0, 1) := by decide +kernel
theorem dX8_beside_71 : decode cX8_beside 71 = .ok (.aload_n 0, 1) := by decide +kernel
theorem dX8_beside_72 : decode cX8_beside 72 = .ok (.getfield 7, 3) := by decide +kernel
theorem dX8_beside_75 : decode cX8_beside 75 = .ok (.iconst 1, 1) := by decide +kernel
theorem dX8_beside_76 : decode cX8_beside 76 = .ok (.isub, 1) := by decide +kernel
theorem dX8_beside_77 : decode cX8_beside 77 = .ok (.invokestatic 69, 3) := by decide +kernel
theorem dX8_beside_80 : decode cX8_beside 80 = .ok (.ifCond .eq 15, 3) := by decide +kernel
theorem dX8_beside_83 : decode cX8_beside 83 = .ok (.aload_n 0, 1) := by decide +kernel
theorem dX8_beside_84 : decode cX8_beside 84 = .ok (.getfield 7, 3) := by decide +kernel
theorem dX8_beside_87 : decode cX8_beside 87 = .ok (.iload 4, 2) := by decide +kernel
theorem dX8_beside_89 : decode cX8_beside 89 = .ok (.imul, 1) := by decide +kernel
theorem dX8_beside_90 : decode cX8_beside 90 = .ok (.iload_n 3, 1) := by decide +kernel
theorem dX8_beside_91 : decode cX8_beside 91 = .ok (.iadd, 1) := by decide +kernel
theorem dX8_beside_92 : decode cX8_beside 92 = .ok (.goto 5, 3) := by decide +kernel
theorem dX8_beside_95 : decode cX8_beside 95 = .ok (.bipush (-6), 2) := by decide +kernel
theorem dX8_beside_97 : decode cX8_beside 97 = .ok (.ireturn, 1) := by decide +kernel
theorem dX8_isSea_0 : decode cX8_isSea 0 = .ok (.aload_n 0, 1) := by decide +kernel
theorem dX8_isSea_1 : decode cX8_isSea 1 = .ok (.getfield 26, 3) := by decide +kernel
theorem dX8_isSea_4 : decode cX8_isSea 4 = .ok (.iload_n 1, 1) := by decide +kernel
theorem dX8_isSea_5 : decode cX8_isSea 5 = .ok (.iaload, 1) := by decide +kernel
theorem dX8_isSea_6 : decode cX8_isSea 6 = .ok (.aload_n 0, 1) := by decide +kernel
theorem dX8_isSea_7 : decode cX8_isSea 7 = .ok (.getfield 13, 3) := by decide +kernel
theorem dX8_isSea_10 : decode cX8_isSea 10 = .ok (.iconst 0, 1) := by decide +kernel
theorem dX8_isSea_11 : decode cX8_isSea 11 = .ok (.iaload, 1) := by decide +kernel
theorem dX8_isSea_12 : decode cX8_isSea 12 = .ok (.if_icmp .ge 7, 3) := by decide +kernel
theorem dX8_isSea_15 : decode cX8_isSea 15 = .ok (.iconst 1, 1) := by decide +kernel
theorem dX8_isSea_16 : decode cX8_isSea 16 = .ok (.goto 4, 3) := by decide +kernel
theorem dX8_isSea_19 : decode cX8_isSea 19 = .ok (.iconst 0, 1) := by decide +kernel
theorem dX8_isSea_20 : decode cX8_isSea 20 = .ok (.ireturn, 1) := by decide +kernel
theorem dX8_isRim_0 : decode cX8_isRim 0 = .ok (.iload_n 1, 1) := by decide +kernel
theorem dX8_isRim_1 : decode cX8_isRim 1 = .ok (.aload_n 0, 1) := by decide +kernel
theorem dX8_isRim_2 : decode cX8_isRim 2 = .ok (.getfield 7, 3) := by decide +kernel
theorem dX8_isRim_5 : decode cX8_isRim 5 = .ok (.irem, 1) := by decide +kernel
theorem dX8_isRim_6 : decode cX8_isRim 6 = .ok (.istore_n 2, 1) := by decide +kernel
theorem dX8_isRim_7 : decode cX8_isRim 7 = .ok (.iload_n 1, 1) := by decide +kernel
theorem dX8_isRim_8 : decode cX8_isRim 8 = .ok (.aload_n 0, 1) := by decide +kernel
theorem dX8_isRim_9 : decode cX8_isRim 9 = .ok (.getfield 7, 3) := by decide +kernel
theorem dX8_isRim_12 : decode cX8_isRim 12 = .ok (.idiv, 1) := by decide +kernel
theorem dX8_isRim_13 : decode cX8_isRim 13 = .ok (.istore_n 3, 1) := by decide +kernel
theorem dX8_isRim_14 : decode cX8_isRim 14 = .ok (.iload_n 2, 1) := by decide +kernel
theorem dX8_isRim_15 : decode cX8_isRim 15 = .ok (.ifCond .eq 27, 3) := by decide +kernel
theorem dX8_isRim_18 : decode cX8_isRim 18 = .ok (.iload_n 3, 1) := by decide +kernel
theorem dX8_isRim_19 : decode cX8_isRim 19 = .ok (.ifCond .eq 23, 3) := by decide +kernel
theorem dX8_isRim_22 : decode cX8_isRim 22 = .ok (.iload_n 2, 1) := by decide +kernel
theorem dX8_isRim_23 : decode cX8_isRim 23 = .ok (.aload_n 0, 1) := by decide +kernel
theorem dX8_isRim_24 : decode cX8_isRim 24 = .ok (.getfield 7, 3) := by decide +kernel
theorem dX8_isRim_27 : decode cX8_isRim 27 = .ok (.iconst 1, 1) := by decide +kernel
theorem dX8_isRim_28 : decode cX8_isRim 28 = .ok (.isub, 1) := by decide +kernel
theorem dX8_isRim_29 : decode cX8_isRim 29 = .ok (.if_icmp .eq 13, 3) := by decide +kernel
theorem dX8_isRim_32 : decode cX8_isRim 32 = .ok (.iload_n 3, 1) := by decide +kernel
theorem dX8_isRim_33 : decode cX8_isRim 33 = .ok (.aload_n 0, 1) := by decide +kernel
theorem dX8_isRim_34 : decode cX8_isRim 34 = .ok (.getfield 7, 3) := by decide +kernel
theorem dX8_isRim_37 : decode cX8_isRim 37 = .ok (.iconst 1, 1) := by decide +kernel
theorem dX8_isRim_38 : decode cX8_isRim 38 = .ok (.isub, 1) := by decide +kernel
theorem dX8_isRim_39 : decode cX8_isRim 39 = .ok (.if_icmp .ne 7, 3) := by decide +kernel
theorem dX8_isRim_42 : decode cX8_isRim 42 = .ok (.iconst 1, 1) := by decide +kernel
theorem dX8_isRim_43 : decode cX8_isRim 43 = .ok (.goto 4, 3) := by decide +kernel
theorem dX8_isRim_46 : decode cX8_isRim 46 = .ok (.iconst 0, 1) := by decide +kernel
theorem dX8_isRim_47 : decode cX8_isRim 47 = .ok (.ireturn, 1) := by decide +kernel
theorem dX8_take_0 : decode cX8_take 0 = .ok (.aload_n 0, 1) := by decide +kernel
theorem dX8_take_1 : decode cX8_take 1 = .ok (.getfield 29, 3) := by decide +kernel
theorem dX8_take_4 : decode cX8_take 4 = .ok (.iload_n 1, 1) := by decide +kernel
theorem dX8_take_5 : decode cX8_take 5 = .ok (.iload_n 2, 1) := by decide +kernel
theorem dX8_take_6 : decode cX8_take 6 = .ok (.iastore, 1) := by decide +kernel
theorem dX8_take_7 : decode cX8_take 7 = .ok (.aload_n 0, 1) := by decide +kernel
theorem dX8_take_8 : decode cX8_take 8 = .ok (.getfield 32, 3) := by decide +kernel
theorem dX8_take_11 : decode cX8_take 11 = .ok (.iload_n 1, 1) := by decide +kernel
theorem dX8_take_12 : decode cX8_take 12 = .ok (.iload_n 3, 1) := by decide +kernel
theorem dX8_take_13 : decode cX8_take 13 = .ok (.iastore, 1) := by decide +kernel
theorem dX8_take_14 : decode cX8_take 14 = .ok (.aload_n 0, 1) := by decide +kernel
theorem dX8_take_15 : decode cX8_take 15 = .ok (.getfield 35, 3) := by decide +kernel
theorem dX8_take_18 : decode cX8_take 18 = .ok (.iload_n 1, 1) := by decide +kernel
theorem dX8_take_19 : decode cX8_take 19 = .ok (.aload_n 0, 1) := by decide +kernel
theorem dX8_take_20 : decode cX8_take 20 = .ok (.getfield 111, 3) := by decide +kernel
theorem dX8_take_23 : decode cX8_take 23 = .ok (.iastore, 1) := by decide +kernel
theorem dX8_take_24 : decode cX8_take 24 = .ok (.aload_n 0, 1) := by decide +kernel
theorem dX8_take_25 : decode cX8_take 25 = .ok (.getfield 38, 3) := by decide +kernel
theorem dX8_take_28 : decode cX8_take 28 = .ok (.aload_n 0, 1) := by decide +kernel
theorem dX8_take_29 : decode cX8_take 29 = .ok (.getfield 111, 3) := by decide +kernel
theorem dX8_take_32 : decode cX8_take 32 = .ok (.iload_n 1, 1) := by decide +kernel
theorem dX8_take_33 : decode cX8_take 33 = .ok (.iastore, 1) := by decide +kernel
theorem dX8_take_34 : decode cX8_take 34 = .ok (.aload_n 0, 1) := by decide +kernel
theorem dX8_take_35 : decode cX8_take 35 = .ok (.dup, 1) := by decide +kernel
theorem dX8_take_36 : decode cX8_take 36 = .ok (.getfield 111, 3) := by decide +kernel
theorem dX8_take_39 : decode cX8_take 39 = .ok (.iconst 1, 1) := by decide +kernel
theorem dX8_take_40 : decode cX8_take 40 = .ok (.iadd, 1) := by decide +kernel
theorem dX8_take_41 : decode cX8_take 41 = .ok (.putfield 111, 3) := by decide +kernel
theorem dX8_take_44 : decode cX8_take 44 = .ok (.return_, 1) := by decide +kernel
theorem dX8_lowest_0 : decode cX8_lowest 0 = .ok (.bipush (-6), 2) := by decide +kernel
theorem dX8_lowest_2 : decode cX8_lowest 2 = .ok (.istore_n 2, 1) := by decide +kernel
theorem dX8_lowest_3 : decode cX8_lowest 3 = .ok (.iconst 0, 1) := by decide +kernel
theorem dX8_lowest_4 : decode cX8_lowest 4 = .ok (.istore_n 3, 1) := by decide +kernel
theorem dX8_lowest_5 : decode cX8_lowest 5 = .ok (.iload_n 3, 1) := by decide +kernel
theorem dX8_lowest_6 : decode cX8_lowest 6 = .ok (.iconst 4, 1) := by decide +kernel
theorem dX8_lowest_7 : decode cX8_lowest 7 = .ok (.if_icmp .ge 103, 3) := by decide +kernel
theorem dX8_lowest_10 : decode cX8_lowest 10 = .ok (.aload_n 0, 1) := by decide +kernel
theorem dX8_lowest_11 : decode cX8_lowest 11 = .ok (.iload_n 1, 1) := by decide +kernel
theorem dX8_lowest_12 : decode cX8_lowest 12 = .ok (.iload_n 3, 1) := by decide +kernel
theorem dX8_lowest_13 : decode cX8_lowest 13 = .ok (.invokevirtual 114, 3) := by decide +kernel
theorem dX8_lowest_16 : decode cX8_lowest 16 = .ok (.istore 4, 2) := by decide +kernel
theorem dX8_lowest_18 : decode cX8_lowest 18 = .ok (.iload 4, 2) := by decide +kernel
theorem dX8_lowest_20 : decode cX8_lowest 20 = .ok (.ifCond .lt 84, 3) := by decide +kernel
theorem dX8_lowest_23 : decode cX8_lowest 23 = .ok (.aload_n 0, 1) := by decide +kernel
theorem dX8_lowest_24 : decode cX8_lowest 24 = .ok (.getfield 35, 3) := by decide +kernel
theorem dX8_lowest_27 : decode cX8_lowest 27 = .ok (.iload 4, 2) := by decide +kernel
theorem dX8_lowest_29 : decode cX8_lowest 29 = .ok (.iaload, 1) := by decide +kernel
theorem dX8_lowest_30 : decode cX8_lowest 30 = .ok (.ifCond .lt 74, 3) := by decide +kernel
theorem dX8_lowest_33 : decode cX8_lowest 33 = .ok (.iload_n 2, 1) := by decide +kernel
theorem dX8_lowest_34 : decode cX8_lowest 34 = .ok (.ifCond .lt 51, 3) := by decide +kernel
theorem dX8_lowest_37 : decode cX8_lowest 37 = .ok (.aload_n 0, 1) := by decide +kernel
theorem dX8_lowest_38 : decode cX8_lowest 38 = .ok (.getfield 29, 3) := by decide +kernel
theorem dX8_lowest_41 : decode cX8_lowest 41 = .ok (.iload 4, 2) := by decide +kernel
theorem dX8_lowest_43 : decode cX8_lowest 43 = .ok (.iaload, 1) := by decide +kernel
theorem dX8_lowest_44 : decode cX8_lowest 44 = .ok (.aload_n 0, 1) := by decide +kernel
theorem dX8_lowest_45 : decode cX8_lowest 45 = .ok (.getfield 29, 3) := by decide +kernel
theorem dX8_lowest_48 : decode cX8_lowest 48 = .ok (.iload_n 2, 1) := by decide +kernel
theorem dX8_lowest_49 : decode cX8_lowest 49 = .ok (.iaload, 1) := by decide +kernel
theorem dX8_lowest_50 : decode cX8_lowest 50 = .ok (.if_icmp .lt 35, 3) := by decide +kernel
theorem dX8_lowest_53 : decode cX8_lowest 53 = .ok (.aload_n 0, 1) := by decide +kernel
theorem dX8_lowest_54 : decode cX8_lowest 54 = .ok (.getfield 29, 3) := by decide +kernel
theorem dX8_lowest_57 : decode cX8_lowest 57 = .ok (.iload 4, 2) := by decide +kernel
theorem dX8_lowest_59 : decode cX8_lowest 59 = .ok (.iaload, 1) := by decide +kernel
theorem dX8_lowest_60 : decode cX8_lowest 60 = .ok (.aload_n 0, 1) := by decide +kernel
theorem dX8_lowest_61 : decode cX8_lowest 61 = .ok (.getfield 29, 3) := by decide +kernel
theorem dX8_lowest_64 : decode cX8_lowest 64 = .ok (.iload_n 2, 1) := by decide +kernel
theorem dX8_lowest_65 : decode cX8_lowest 65 = .ok (.iaload, 1) := by decide +kernel
theorem dX8_lowest_66 : decode cX8_lowest 66 = .ok (.if_icmp .ne 23, 3) := by decide +kernel
theorem dX8_lowest_69 : decode cX8_lowest 69 = .ok (.aload_n 0, 1) := by decide +kernel
theorem dX8_lowest_70 : decode cX8_lowest 70 = .ok (.getfield 35, 3) := by decide +kernel
theorem dX8_lowest_73 : decode cX8_lowest 73 = .ok (.iload 4, 2) := by decide +kernel
theorem dX8_lowest_75 : decode cX8_lowest 75 = .ok (.iaload, 1) := by decide +kernel
theorem dX8_lowest_76 : decode cX8_lowest 76 = .ok (.aload_n 0, 1) := by decide +kernel
theorem dX8_lowest_77 : decode cX8_lowest 77 = .ok (.getfield 35, 3) := by decide +kernel
theorem dX8_lowest_80 : decode cX8_lowest 80 = .ok (.iload_n 2, 1) := by decide +kernel
theorem dX8_lowest_81 : decode cX8_lowest 81 = .ok (.iaload, 1) := by decide +kernel
theorem dX8_lowest_82 : decode cX8_lowest 82 = .ok (.if_icmp .ge 7, 3) := by decide +kernel
theorem dX8_lowest_85 : decode cX8_lowest 85 = .ok (.iconst 1, 1) := by decide +kernel
theorem dX8_lowest_86 : decode cX8_lowest 86 = .ok (.goto 4, 3) := by decide +kernel
theorem dX8_lowest_89 : decode cX8_lowest 89 = .ok (.iconst 0, 1) := by decide +kernel
theorem dX8_lowest_90 : decode cX8_lowest 90 = .ok (.istore 5, 2) := by decide +kernel
theorem dX8_lowest_92 : decode cX8_lowest 92 = .ok (.iload 5, 2) := by decide +kernel
theorem dX8_lowest_94 : decode cX8_lowest 94 = .ok (.ifCond .eq 8, 3) := by decide +kernel
theorem dX8_lowest_97 : decode cX8_lowest 97 = .ok (.iload 4, 2) := by decide +kernel
theorem dX8_lowest_99 : decode cX8_lowest 99 = .ok (.goto 4, 3) := by decide +kernel
theorem dX8_lowest_102 : decode cX8_lowest 102 = .ok (.iload_n 2, 1) := by decide +kernel
theorem dX8_lowest_103 : decode cX8_lowest 103 = .ok (.istore_n 2, 1) := by decide +kernel
theorem dX8_lowest_104 : decode cX8_lowest 104 = .ok (.iinc 3 1, 3) := by decide +kernel
theorem dX8_lowest_107 : decode cX8_lowest 107 = .ok (.goto (-102), 3) := by decide +kernel
theorem dX8_lowest_110 : decode cX8_lowest 110 = .ok (.iload_n 2, 1) := by decide +kernel
theorem dX8_lowest_111 : decode cX8_lowest 111 = .ok (.ireturn, 1) := by decide +kernel
theorem dX8_water_0 : decode cX8_water 0 = .ok (.aload_n 0, 1) := by decide +kernel
theorem dX8_water_1 : decode cX8_water 1 = .ok (.getfield 29, 3) := by decide +kernel
theorem dX8_water_4 : decode cX8_water 4 = .ok (.iload_n 2, 1) := by decide +kernel
theorem dX8_water_5 : decode cX8_water 5 = .ok (.iaload, 1) := by decide +kernel
theorem dX8_water_6 : decode cX8_water 6 = .ok (.aload_n 0, 1) := by decide +kernel
theorem dX8_water_7 : decode cX8_water 7 = .ok (.getfield 26, 3) := by decide +kernel
theorem dX8_water_10 : decode cX8_water 10 = .ok (.iload_n 1, 1) := by decide +kernel
theorem dX8_water_11 : decode cX8_water 11 = .ok (.iaload, 1) := by decide +kernel
theorem dX8_water_12 : decode cX8_water 12 = .ok (.if_icmp .le 12, 3) := by decide +kernel
theorem dX8_water_15 : decode cX8_water 15 = .ok (.aload_n 0, 1) := by decide +kernel
theorem dX8_water_16 : decode cX8_water 16 = .ok (.getfield 29, 3) := by decide +kernel
theorem dX8_water_19 : decode cX8_water 19 = .ok (.iload_n 2, 1) := by decide +kernel
theorem dX8_water_20 : decode cX8_water 20 = .ok (.iaload, 1) := by decide +kernel
theorem dX8_water_21 : decode cX8_water 21 = .ok (.goto 9, 3) := by decide +kernel
theorem dX8_water_24 : decode cX8_water 24 = .ok (.aload_n 0, 1) := by decide +kernel
theorem dX8_water_25 : decode cX8_water 25 = .ok (.getfield 26, 3) := by decide +kernel
theorem dX8_water_28 : decode cX8_water 28 = .ok (.iload_n 1, 1) := by decide +kernel
theorem dX8_water_29 : decode cX8_water 29 = .ok (.iaload, 1) := by decide +kernel
theorem dX8_water_30 : decode cX8_water 30 = .ok (.ireturn, 1) := by decide +kernel
theorem dX8_layWater_0 : decode cX8_layWater 0 = .ok (.aload_n 0, 1) := by decide +kernel
theorem dX8_layWater_1 : decode cX8_layWater 1 = .ok (.iconst 0, 1) := by decide +kernel
theorem dX8_layWater_2 : decode cX8_layWater 2 = .ok (.putfield 111, 3) := by decide +kernel
theorem dX8_layWater_5 : decode cX8_layWater 5 = .ok (.iconst 0, 1) := by decide +kernel
theorem dX8_layWater_6 : decode cX8_layWater 6 = .ok (.istore_n 1, 1) := by decide +kernel
theorem dX8_layWater_7 : decode cX8_layWater 7 = .ok (.iload_n 1, 1) := by decide +kernel
theorem dX8_layWater_8 : decode cX8_layWater 8 = .ok (.aload_n 0, 1) := by decide +kernel
theorem dX8_layWater_9 : decode cX8_layWater 9 = .ok (.getfield 7, 3) := by decide +kernel
theorem dX8_layWater_12 : decode cX8_layWater 12 = .ok (.aload_n 0, 1) := by decide +kernel
theorem dX8_layWater_13 : decode cX8_layWater 13 = .ok (.getfield 7, 3) := by decide +kernel
theorem dX8_layWater_16 : decode cX8_layWater 16 = .ok (.imul, 1) := by decide +kernel
theorem dX8_layWater_17 : decode cX8_layWater 17 = .ok (.if_icmp .ge 141, 3) := by decide +kernel
theorem dX8_layWater_20 : decode cX8_layWater 20 = .ok (.aload_n 0, 1) := by decide +kernel
theorem dX8_layWater_21 : decode cX8_layWater 21 = .ok (.aload_n 0, 1) := by decide +kernel
theorem dX8_layWater_22 : decode cX8_layWater 22 = .ok (.getfield 98, 3) := by decide +kernel
theorem dX8_layWater_25 : decode cX8_layWater 25 = .ok (.iload_n 1, 1) := by decide +kernel
theorem dX8_layWater_26 : decode cX8_layWater 26 = .ok (.aload_n 0, 1) := by decide +kernel
theorem dX8_layWater_27 : decode cX8_layWater 27 = .ok (.getfield 7, 3) := by decide +kernel
theorem dX8_layWater_30 : decode cX8_layWater 30 = .ok (.irem, 1) := by decide +kernel
theorem dX8_layWater_31 : decode cX8_layWater 31 = .ok (.iadd, 1) := by decide +kernel
theorem dX8_layWater_32 : decode cX8_layWater 32 = .ok (.aload_n 0, 1) := by decide +kernel
theorem dX8_layWater_33 : decode cX8_layWater 33 = .ok (.getfield 101, 3) := by decide +kernel
theorem dX8_layWater_36 : decode cX8_layWater 36 = .ok (.iload_n 1, 1) := by decide +kernel
theorem dX8_layWater_37 : decode cX8_layWater 37 = .ok (.aload_n 0, 1) := by decide +kernel
theorem dX8_layWater_38 : decode cX8_layWater 38 = .ok (.getfield 7, 3) := by decide +kernel
theorem dX8_layWater_41 : decode cX8_layWater 41 = .ok (.idiv, 1) := by decide +kernel
theorem dX8_layWater_42 : decode cX8_layWater 42 = .ok (.iadd, 1) := by decide +kernel
theorem dX8_layWater_43 : decode cX8_layWater 43 = .ok (.invokevirtual 93, 3) := by decide +kernel
theorem dX8_layWater_46 : decode cX8_layWater 46 = .ok (.istore_n 2, 1) := by decide +kernel
theorem dX8_layWater_47 : decode cX8_layWater 47 = .ok (.iconst 0, 1) := by decide +kernel
theorem dX8_layWater_48 : decode cX8_layWater 48 = .ok (.istore_n 3, 1) := by decide +kernel
theorem dX8_layWater_49 : decode cX8_layWater 49 = .ok (.iload_n 3, 1) := by decide +kernel
theorem dX8_layWater_50 : decode cX8_layWater 50 = .ok (.aload_n 0, 1) := by decide +kernel
theorem dX8_layWater_51 : decode cX8_layWater 51 = .ok (.getfield 108, 3) := by decide +kernel
theorem dX8_layWater_54 : decode cX8_layWater 54 = .ok (.if_icmp .ge 62, 3) := by decide +kernel
theorem dX8_layWater_57 : decode cX8_layWater 57 = .ok (.iload_n 2, 1) := by decide +kernel
theorem dX8_layWater_58 : decode cX8_layWater 58 = .ok (.aload_n 0, 1) := by decide +kernel
theorem dX8_layWater_59 : decode cX8_layWater 59 = .ok (.getfield 17, 3) := by decide +kernel
theorem dX8_layWater_62 : decode cX8_layWater 62 = .ok (.iload_n 3, 1) := by decide +kernel
theorem dX8_layWater_63 : decode cX8_layWater 63 = .ok (.iaload, 1) := by decide +kernel
theorem dX8_layWater_64 : decode cX8_layWater 64 = .ok (.aload_n 0, 1) := by decide +kernel
theorem dX8_layWater_65 : decode cX8_layWater 65 = .ok (.getfield 98, 3) := by decide +kernel
theorem dX8_layWater_68 : decode cX8_layWater 68 = .ok (.iload_n 1, 1) := by decide +kernel
theorem dX8_layWater_69 : decode cX8_layWater 69 = .ok (.aload_n 0, 1) := by decide +kernel
theorem dX8_layWater_70 : decode cX8_layWater 70 = .ok (.getfield 7, 3) := by decide +kernel
theorem dX8_layWater_73 : decode cX8_layWater 73 = .ok (.irem, 1) := by decide +kernel
theorem dX8_layWater_74 : decode cX8_layWater 74 = .ok (.iadd, 1) := by decide +kernel
theorem dX8_layWater_75 : decode cX8_layWater 75 = .ok (.if_icmp .ne 32, 3) := by decide +kernel
theorem dX8_layWater_78 : decode cX8_layWater 78 = .ok (.aload_n 0, 1) := by decide +kernel
theorem dX8_layWater_79 : decode cX8_layWater 79 = .ok (.getfield 20, 3) := by decide +kernel
theorem dX8_layWater_82 : decode cX8_layWater 82 = .ok (.iload_n 3, 1) := by decide +kernel
theorem dX8_layWater_83 : decode cX8_layWater 83 = .ok (.iaload, 1) := by decide +kernel
theorem dX8_layWater_84 : decode cX8_layWater 84 = .ok (.aload_n 0, 1) := by decide +kernel
theorem dX8_layWater_85 : decode cX8_layWater 85 = .ok (.getfield 101, 3) := by decide +kernel
theorem dX8_layWater_88 : decode cX8_layWater 88 = .ok (.iload_n 1, 1) := by decide +kernel
theorem dX8_layWater_89 : decode cX8_layWater 89 = .ok (.aload_n 0, 1) := by decide +kernel
theorem dX8_layWater_90 : decode cX8_layWater 90 = .ok (.getfield 7, 3) := by decide +kernel
theorem dX8_layWater_93 : decode cX8_layWater 93 = .ok (.idiv, 1) := by decide +kernel
theorem dX8_layWater_94 : decode cX8_layWater 94 = .ok (.iadd, 1) := by decide +kernel
theorem dX8_layWater_95 : decode cX8_layWater 95 = .ok (.if_icmp .ne 12, 3) := by decide +kernel
theorem dX8_layWater_98 : decode cX8_layWater 98 = .ok (.aload_n 0, 1) := by decide +kernel
theorem dX8_layWater_99 : decode cX8_layWater 99 = .ok (.getfield 23, 3) := by decide +kernel
theorem dX8_layWater_102 : decode cX8_layWater 102 = .ok (.iload_n 3, 1) := by decide +kernel
theorem dX8_layWater_103 : decode cX8_layWater 103 = .ok (.iaload, 1) := by decide +kernel
theorem dX8_layWater_104 : decode cX8_layWater 104 = .ok (.goto 4, 3) := by decide +kernel
theorem dX8_layWater_107 : decode cX8_layWater 107 = .ok (.iconst 0, 1) := by decide +kernel
theorem dX8_layWater_108 : decode cX8_layWater 108 = .ok (.iadd, 1) := by decide +kernel
theorem dX8_layWater_109 : decode cX8_layWater 109 = .ok (.istore_n 2, 1) := by decide +kernel
theorem dX8_layWater_110 : decode cX8_layWater 110 = .ok (.iinc 3 1, 3) := by decide +kernel
theorem dX8_layWater_113 : decode cX8_layWater 113 = .ok (.goto (-64), 3) := by decide +kernel
theorem dX8_layWater_116 : decode cX8_layWater 116 = .ok (.aload_n 0, 1) := by decide +kernel
theorem dX8_layWater_117 : decode cX8_layWater 117 = .ok (.getfield 26, 3) := by decide +kernel
theorem dX8_layWater_120 : decode cX8_layWater 120 = .ok (.iload_n 1, 1) := by decide +kernel
theorem dX8_layWater_121 : decode cX8_layWater 121 = .ok (.iload_n 2, 1) := by decide +kernel
theorem dX8_layWater_122 : decode cX8_layWater 122 = .ok (.ifCond .ge 7, 3) := by decide +kernel
theorem dX8_layWater_125 : decode cX8_layWater 125 = .ok (.iconst 0, 1) := by decide +kernel
theorem dX8_layWater_126 : decode cX8_layWater 126 = .ok (.goto 17, 3) := by decide +kernel
theorem dX8_layWater_129 : decode cX8_layWater 129 = .ok (.iload_n 2, 1) := by decide +kernel
theorem dX8_layWater_130 : decode cX8_layWater 130 = .ok (.sipush 400, 3) := by decide +kernel
theorem dX8_layWater_133 : decode cX8_layWater 133 = .ok (.if_icmp .le 9, 3) := by decide +kernel
theorem dX8_layWater_136 : decode cX8_layWater 136 = .ok (.sipush 400, 3) := by decide +kernel
theorem dX8_layWater_139 : decode cX8_layWater 139 = .ok (.goto 4, 3) := by decide +kernel
theorem dX8_layWater_142 : decode cX8_layWater 142 = .ok (.iload_n 2, 1) := by decide +kernel
theorem dX8_layWater_143 : decode cX8_layWater 143 = .ok (.iastore, 1) := by decide +kernel
theorem dX8_layWater_144 : decode cX8_layWater 144 = .ok (.aload_n 0, 1) := by decide +kernel
theorem dX8_layWater_145 : decode cX8_layWater 145 = .ok (.getfield 35, 3) := by decide +kernel
theorem dX8_layWater_148 : decode cX8_layWater 148 = .ok (.iload_n 1, 1) := by decide +kernel
theorem dX8_layWater_149 : decode cX8_layWater 149 = .ok (.bipush (-6), 2) := by decide +kernel
theorem dX8_layWater_151 : decode cX8_layWater 151 = .ok (.iastore, 1) := by decide +kernel
theorem dX8_layWater_152 : decode cX8_layWater 152 = .ok (.iinc 1 1, 3) := by decide +kernel
theorem dX8_layWater_155 : decode cX8_layWater 155 = .ok (.goto (-148), 3) := by decide +kernel
theorem dX8_layWater_158 : decode cX8_layWater 158 = .ok (.iconst 0, 1) := by decide +kernel
theorem dX8_layWater_159 : decode cX8_layWater 159 = .ok (.istore_n 1, 1) := by decide +kernel
theorem dX8_layWater_160 : decode cX8_layWater 160 = .ok (.iload_n 1, 1) := by decide +kernel
theorem dX8_layWater_161 : decode cX8_layWater 161 = .ok (.aload_n 0, 1) := by decide +kernel
theorem dX8_layWater_162 : decode cX8_layWater 162 = .ok (.getfield 7, 3) := by decide +kernel
theorem dX8_layWater_165 : decode cX8_layWater 165 = .ok (.aload_n 0, 1) := by decide +kernel
theorem dX8_layWater_166 : decode cX8_layWater 166 = .ok (.getfield 7, 3) := by decide +kernel
theorem dX8_layWater_169 : decode cX8_layWater 169 = .ok (.imul, 1) := by decide +kernel
theorem dX8_layWater_170 : decode cX8_layWater 170 = .ok (.if_icmp .ge 55, 3) := by decide +kernel
theorem dX8_layWater_173 : decode cX8_layWater 173 = .ok (.aload_n 0, 1) := by decide +kernel
theorem dX8_layWater_174 : decode cX8_layWater 174 = .ok (.iload_n 1, 1) := by decide +kernel
theorem dX8_layWater_175 : decode cX8_layWater 175 = .ok (.invokevirtual 117, 3) := by decide +kernel
theorem dX8_layWater_178 : decode cX8_layWater 178 = .ok (.ifCond .ne 11, 3) := by decide +kernel
theorem dX8_layWater_181 : decode cX8_layWater 181 = .ok (.aload_n 0, 1) := by decide +kernel
theorem dX8_layWater_182 : decode cX8_layWater 182 = .ok (.iload_n 1, 1) := by decide +kernel
theorem dX8_layWater_183 : decode cX8_layWater 183 = .ok (.invokevirtual 120, 3) := by decide +kernel
theorem dX8_layWater_186 : decode cX8_layWater 186 = .ok (.ifCond .eq 33, 3) := by decide +kernel
theorem dX8_layWater_189 : decode cX8_layWater 189 = .ok (.aload_n 0, 1) := by decide +kernel
theorem dX8_layWater_190 : decode cX8_layWater 190 = .ok (.iload_n 1, 1) := by decide +kernel
theorem dX8_layWater_191 : decode cX8_layWater 191 = .ok (.aload_n 0, 1) := by decide +kernel
theorem dX8_layWater_192 : decode cX8_layWater 192 = .ok (.iload_n 1, 1) := by decide +kernel
theorem dX8_layWater_193 : decode cX8_layWater 193 = .ok (.invokevirtual 117, 3) := by decide +kernel
theorem dX8_layWater_196 : decode cX8_layWater 196 = .ok (.ifCond .eq 12, 3) := by decide +kernel
theorem dX8_layWater_199 : decode cX8_layWater 199 = .ok (.aload_n 0, 1) := by decide +kernel
theorem dX8_layWater_200 : decode cX8_layWater 200 = .ok (.getfield 13, 3) := by decide +kernel
theorem dX8_layWater_203 : decode cX8_layWater 203 = .ok (.iconst 0, 1) := by decide +kernel
theorem dX8_layWater_204 : decode cX8_layWater 204 = .ok (.iaload, 1) := by decide +kernel
theorem dX8_layWater_205 : decode cX8_layWater 205 = .ok (.goto 9, 3) := by decide +kernel
theorem dX8_layWater_208 : decode cX8_layWater 208 = .ok (.aload_n 0, 1) := by decide +kernel
theorem dX8_layWater_209 : decode cX8_layWater 209 = .ok (.getfield 26, 3) := by decide +kernel
theorem dX8_layWater_212 : decode cX8_layWater 212 = .ok (.iload_n 1, 1) := by decide +kernel
theorem dX8_layWater_213 : decode cX8_layWater 213 = .ok (.iaload, 1) := by decide +kernel
theorem dX8_layWater_214 : decode cX8_layWater 214 = .ok (.bipush (-6), 2) := by decide +kernel
theorem dX8_layWater_216 : decode cX8_layWater 216 = .ok (.invokevirtual 123, 3) := by decide +kernel
theorem dX8_layWater_219 : decode cX8_layWater 219 = .ok (.iinc 1 1, 3) := by decide +kernel
theorem dX8_layWater_222 : decode cX8_layWater 222 = .ok (.goto (-62), 3) := by decide +kernel
theorem dX8_layWater_225 : decode cX8_layWater 225 = .ok (.aload_n 0, 1) := by decide +kernel
theorem dX8_layWater_226 : decode cX8_layWater 226 = .ok (.getfield 111, 3) := by decide +kernel
theorem dX8_layWater_229 : decode cX8_layWater 229 = .ok (.aload_n 0, 1) := by decide +kernel
theorem dX8_layWater_230 : decode cX8_layWater 230 = .ok (.getfield 7, 3) := by decide +kernel
theorem dX8_layWater_233 : decode cX8_layWater 233 = .ok (.aload_n 0, 1) := by decide +kernel
theorem dX8_layWater_234 : decode cX8_layWater 234 = .ok (.getfield 7, 3) := by decide +kernel
theorem dX8_layWater_237 : decode cX8_layWater 237 = .ok (.imul, 1) := by decide +kernel
theorem dX8_layWater_238 : decode cX8_layWater 238 = .ok (.if_icmp .ge 96, 3) := by decide +kernel
theorem dX8_layWater_241 : decode cX8_layWater 241 = .ok (.bipush (-6), 2) := by decide +kernel
theorem dX8_layWater_243 : decode cX8_layWater 243 = .ok (.istore_n 1, 1) := by decide +kernel
theorem dX8_layWater_244 : decode cX8_layWater 244 = .ok (.bipush (-6), 2) := by decide +kernel
theorem dX8_layWater_246 : decode cX8_layWater 246 = .ok (.istore_n 2, 1) := by decide +kernel
theorem dX8_layWater_247 : decode cX8_layWater 247 = .ok (.iconst 0, 1) := by decide +kernel
theorem dX8_layWater_248 : decode cX8_layWater 248 = .ok (.istore_n 3, 1) := by decide +kernel
theorem dX8_layWater_249 : decode cX8_layWater 249 = .ok (.iload_n 3, 1) := by decide +kernel
theorem dX8_layWater_250 : decode cX8_layWater 250 = .ok (.aload_n 0, 1) := by decide +kernel
theorem dX8_layWater_251 : decode cX8_layWater 251 = .ok (.getfield 7, 3) := by decide +kernel
theorem dX8_layWater_254 : decode cX8_layWater 254 = .ok (.aload_n 0, 1) := by decide +kernel
theorem dX8_layWater_255 : decode cX8_layWater 255 = .ok (.getfield 7, 3) := by decide +kernel
theorem dX8_layWater_258 : decode cX8_layWater 258 = .ok (.imul, 1) := by decide +kernel
theorem dX8_layWater_259 : decode cX8_layWater 259 = .ok (.if_icmp .ge 60, 3) := by decide +kernel
theorem dX8_layWater_262 : decode cX8_layWater 262 = .ok (.aload_n 0, 1) := by decide +kernel
theorem dX8_layWater_263 : decode cX8_layWater 263 = .ok (.getfield 35, 3) := by decide +kernel
theorem dX8_layWater_266 : decode cX8_layWater 266 = .ok (.iload_n 3, 1) := by decide +kernel
theorem dX8_layWater_267 : decode cX8_layWater 267 = .ok (.iaload, 1) := by decide +kernel
theorem dX8_layWater_268 : decode cX8_layWater 268 = .ok (.ifCond .ge 11, 3) := by decide +kernel
theorem dX8_layWater_271 : decode cX8_layWater 271 = .ok (.aload_n 0, 1) := by decide +kernel
theorem dX8_layWater_272 : decode cX8_layWater 272 = .ok (.iload_n 3, 1) := by decide +kernel
theorem dX8_layWater_273 : decode cX8_layWater 273 = .ok (.invokevirtual 127, 3) := by decide +kernel
theorem dX8_layWater_276 : decode cX8_layWater 276 = .ok (.goto 5, 3) := by decide +kernel
theorem dX8_layWater_279 : decode cX8_layWater 279 = .ok (.bipush (-6), 2) := by decide +kernel
theorem dX8_layWater_281 : decode cX8_layWater 281 = .ok (.istore 4, 2) := by decide +kernel
theorem dX8_layWater_283 : decode cX8_layWater 283 = .ok (.iload 4, 2) := by decide +kernel
theorem dX8_layWater_285 : decode cX8_layWater 285 = .ok (.ifCond .lt 28, 3) := by decide +kernel
theorem dX8_layWater_288 : decode cX8_layWater 288 = .ok (.iload_n 1, 1) := by decide +kernel
theorem dX8_layWater_289 : decode cX8_layWater 289 = .ok (.ifCond .lt 19, 3) := by decide +kernel
theorem dX8_layWater_292 : decode cX8_layWater 292 = .ok (.aload_n 0, 1) := by decide +kernel
theorem dX8_layWater_293 : decode cX8_layWater 293 = .ok (.iload_n 3, 1) := by decide +kernel
theorem dX8_layWater_294 : decode cX8_layWater 294 = .ok (.iload 4, 2) := by decide +kernel
theorem dX8_layWater_296 : decode cX8_layWater 296 = .ok (.invokevirtual 131, 3) := by decide +kernel
theorem dX8_layWater_299 : decode cX8_layWater 299 = .ok (.aload_n 0, 1) := by decide +kernel
theorem dX8_layWater_300 : decode cX8_layWater 300 = .ok (.iload_n 1, 1) := by decide +kernel
theorem dX8_layWater_301 : decode cX8_layWater 301 = .ok (.iload_n 2, 1) := by decide +kernel
theorem dX8_layWater_302 : decode cX8_layWater 302 = .ok (.invokevirtual 131, 3) := by decide +kernel
theorem dX8_layWater_305 : decode cX8_layWater 305 = .ok (.if_icmp .ge 8, 3) := by decide +kernel
theorem dX8_layWater_308 : decode cX8_layWater 308 = .ok (.iload_n 3, 1) := by decide +kernel
theorem dX8_layWater_309 : decode cX8_layWater 309 = .ok (.istore_n 1, 1) := by decide +kernel
theorem dX8_layWater_310 : decode cX8_layWater 310 = .ok (.iload 4, 2) := by decide +kernel
theorem dX8_layWater_312 : decode cX8_layWater 312 = .ok (.istore_n 2, 1) := by decide +kernel
theorem dX8_layWater_313 : decode cX8_layWater 313 = .ok (.iinc 3 1, 3) := by decide +kernel
theorem dX8_layWater_316 : decode cX8_layWater 316 = .ok (.goto (-67), 3) := by decide +kernel
theorem dX8_layWater_319 : decode cX8_layWater 319 = .ok (.aload_n 0, 1) := by decide +kernel
theorem dX8_layWater_320 : decode cX8_layWater 320 = .ok (.iload_n 1, 1) := by decide +kernel
theorem dX8_layWater_321 : decode cX8_layWater 321 = .ok (.aload_n 0, 1) := by decide +kernel
theorem dX8_layWater_322 : decode cX8_layWater 322 = .ok (.iload_n 1, 1) := by decide +kernel
theorem dX8_layWater_323 : decode cX8_layWater 323 = .ok (.iload_n 2, 1) := by decide +kernel
theorem dX8_layWater_324 : decode cX8_layWater 324 = .ok (.invokevirtual 131, 3) := by decide +kernel
theorem dX8_layWater_327 : decode cX8_layWater 327 = .ok (.iload_n 2, 1) := by decide +kernel
theorem dX8_layWater_328 : decode cX8_layWater 328 = .ok (.invokevirtual 123, 3) := by decide +kernel
theorem dX8_layWater_331 : decode cX8_layWater 331 = .ok (.goto (-106), 3) := by decide +kernel
