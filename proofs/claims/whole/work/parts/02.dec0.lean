theorem dX0_init_0 : decode cX0_init 0 = .ok (.aload_n 0, 1) := by decide +kernel
theorem dX0_init_1 : decode cX0_init 1 = .ok (.invokespecial 3, 3) := by decide +kernel
theorem dX0_init_4 : decode cX0_init 4 = .ok (.aload_n 0, 1) := by decide +kernel
theorem dX0_init_5 : decode cX0_init 5 = .ok (.new 9, 3) := by decide +kernel
theorem dX0_init_8 : decode cX0_init 8 = .ok (.dup, 1) := by decide +kernel
theorem dX0_init_9 : decode cX0_init 9 = .ok (.sipush 2308, 3) := by decide +kernel
theorem dX0_init_12 : decode cX0_init 12 = .ok (.invokespecial 13, 3) := by decide +kernel
theorem dX0_init_15 : decode cX0_init 15 = .ok (.putfield 16, 3) := by decide +kernel
theorem dX0_init_18 : decode cX0_init 18 = .ok (.aload_n 0, 1) := by decide +kernel
theorem dX0_init_19 : decode cX0_init 19 = .ok (.iconst 0, 1) := by decide +kernel
theorem dX0_init_20 : decode cX0_init 20 = .ok (.putfield 20, 3) := by decide +kernel
theorem dX0_init_23 : decode cX0_init 23 = .ok (.aload_n 0, 1) := by decide +kernel
theorem dX0_init_24 : decode cX0_init 24 = .ok (.iconst 0, 1) := by decide +kernel
theorem dX0_init_25 : decode cX0_init 25 = .ok (.putfield 24, 3) := by decide +kernel
theorem dX0_init_28 : decode cX0_init 28 = .ok (.return_, 1) := by decide +kernel
theorem dX0_empty_0 : decode cX0_empty 0 = .ok (.aload_n 0, 1) := by decide +kernel
theorem dX0_empty_1 : decode cX0_empty 1 = .ok (.iconst 0, 1) := by decide +kernel
theorem dX0_empty_2 : decode cX0_empty 2 = .ok (.putfield 20, 3) := by decide +kernel
theorem dX0_empty_5 : decode cX0_empty 5 = .ok (.return_, 1) := by decide +kernel
theorem dX0_insert_0 : decode cX0_insert 0 = .ok (.aload_n 0, 1) := by decide +kernel
theorem dX0_insert_1 : decode cX0_insert 1 = .ok (.getfield 20, 3) := by decide +kernel
theorem dX0_insert_4 : decode cX0_insert 4 = .ok (.sipush 2308, 3) := by decide +kernel
theorem dX0_insert_7 : decode cX0_insert 7 = .ok (.if_icmp .lt 4, 3) := by decide +kernel
theorem dX0_insert_10 : decode cX0_insert 10 = .ok (.return_, 1) := by decide +kernel
theorem dX0_insert_11 : decode cX0_insert 11 = .ok (.iload_n 1, 1) := by decide +kernel
theorem dX0_insert_12 : decode cX0_insert 12 = .ok (.bipush 10, 2) := by decide +kernel
theorem dX0_insert_14 : decode cX0_insert 14 = .ok (.ishl, 1) := by decide +kernel
theorem dX0_insert_15 : decode cX0_insert 15 = .ok (.iload_n 2, 1) := by decide +kernel
theorem dX0_insert_16 : decode cX0_insert 16 = .ok (.sipush 1023, 3) := by decide +kernel
theorem dX0_insert_19 : decode cX0_insert 19 = .ok (.iand, 1) := by decide +kernel
theorem dX0_insert_20 : decode cX0_insert 20 = .ok (.ior, 1) := by decide +kernel
theorem dX0_insert_21 : decode cX0_insert 21 = .ok (.istore_n 3, 1) := by decide +kernel
theorem dX0_insert_22 : decode cX0_insert 22 = .ok (.aload_n 0, 1) := by decide +kernel
theorem dX0_insert_23 : decode cX0_insert 23 = .ok (.getfield 20, 3) := by decide +kernel
theorem dX0_insert_26 : decode cX0_insert 26 = .ok (.istore 4, 2) := by decide +kernel
theorem dX0_insert_28 : decode cX0_insert 28 = .ok (.aload_n 0, 1) := by decide +kernel
theorem dX0_insert_29 : decode cX0_insert 29 = .ok (.dup, 1) := by decide +kernel
theorem dX0_insert_30 : decode cX0_insert 30 = .ok (.getfield 20, 3) := by decide +kernel
theorem dX0_insert_33 : decode cX0_insert 33 = .ok (.iconst 1, 1) := by decide +kernel
theorem dX0_insert_34 : decode cX0_insert 34 = .ok (.iadd, 1) := by decide +kernel
theorem dX0_insert_35 : decode cX0_insert 35 = .ok (.putfield 20, 3) := by decide +kernel
theorem dX0_insert_38 : decode cX0_insert 38 = .ok (.iload 4, 2) := by decide +kernel
theorem dX0_insert_40 : decode cX0_insert 40 = .ok (.ifCond .le 53, 3) := by decide +kernel
theorem dX0_insert_43 : decode cX0_insert 43 = .ok (.aload_n 0, 1) := by decide +kernel
theorem dX0_insert_44 : decode cX0_insert 44 = .ok (.getfield 16, 3) := by decide +kernel
theorem dX0_insert_47 : decode cX0_insert 47 = .ok (.iload 4, 2) := by decide +kernel
theorem dX0_insert_49 : decode cX0_insert 49 = .ok (.iconst 1, 1) := by decide +kernel
theorem dX0_insert_50 : decode cX0_insert 50 = .ok (.isub, 1) := by decide +kernel
theorem dX0_insert_51 : decode cX0_insert 51 = .ok (.iconst 1, 1) := by decide +kernel
theorem dX0_insert_52 : decode cX0_insert 52 = .ok (.ishr, 1) := by decide +kernel
theorem dX0_insert_53 : decode cX0_insert 53 = .ok (.invokevirtual 27, 3) := by decide +kernel
theorem dX0_insert_56 : decode cX0_insert 56 = .ok (.iload_n 3, 1) := by decide +kernel
theorem dX0_insert_57 : decode cX0_insert 57 = .ok (.if_icmp .le 36, 3) := by decide +kernel
theorem dX0_insert_60 : decode cX0_insert 60 = .ok (.aload_n 0, 1) := by decide +kernel
theorem dX0_insert_61 : decode cX0_insert 61 = .ok (.getfield 16, 3) := by decide +kernel
theorem dX0_insert_64 : decode cX0_insert 64 = .ok (.iload 4, 2) := by decide +kernel
theorem dX0_insert_66 : decode cX0_insert 66 = .ok (.aload_n 0, 1) := by decide +kernel
theorem dX0_insert_67 : decode cX0_insert 67 = .ok (.getfield 16, 3) := by decide +kernel
theorem dX0_insert_70 : decode cX0_insert 70 = .ok (.iload 4, 2) := by decide +kernel
theorem dX0_insert_72 : decode cX0_insert 72 = .ok (.iconst 1, 1) := by decide +kernel
theorem dX0_insert_73 : decode cX0_insert 73 = .ok (.isub, 1) := by decide +kernel
theorem dX0_insert_74 : decode cX0_insert 74 = .ok (.iconst 1, 1) := by decide +kernel
theorem dX0_insert_75 : decode cX0_insert 75 = .ok (.ishr, 1) := by decide +kernel
theorem dX0_insert_76 : decode cX0_insert 76 = .ok (.invokevirtual 27, 3) := by decide +kernel
theorem dX0_insert_79 : decode cX0_insert 79 = .ok (.invokevirtual 31, 3) := by decide +kernel
theorem dX0_insert_82 : decode cX0_insert 82 = .ok (.iload 4, 2) := by decide +kernel
theorem dX0_insert_84 : decode cX0_insert 84 = .ok (.iconst 1, 1) := by decide +kernel
theorem dX0_insert_85 : decode cX0_insert 85 = .ok (.isub, 1) := by decide +kernel
theorem dX0_insert_86 : decode cX0_insert 86 = .ok (.iconst 1, 1) := by decide +kernel
theorem dX0_insert_87 : decode cX0_insert 87 = .ok (.ishr, 1) := by decide +kernel
theorem dX0_insert_88 : decode cX0_insert 88 = .ok (.istore 4, 2) := by decide +kernel
theorem dX0_insert_90 : decode cX0_insert 90 = .ok (.goto (-52), 3) := by decide +kernel
theorem dX0_insert_93 : decode cX0_insert 93 = .ok (.aload_n 0, 1) := by decide +kernel
theorem dX0_insert_94 : decode cX0_insert 94 = .ok (.getfield 16, 3) := by decide +kernel
theorem dX0_insert_97 : decode cX0_insert 97 = .ok (.iload 4, 2) := by decide +kernel
theorem dX0_insert_99 : decode cX0_insert 99 = .ok (.iload_n 3, 1) := by decide +kernel
theorem dX0_insert_100 : decode cX0_insert 100 = .ok (.invokevirtual 31, 3) := by decide +kernel
theorem dX0_insert_103 : decode cX0_insert 103 = .ok (.return_, 1) := by decide +kernel
theorem dX0_remove_0 : decode cX0_remove 0 = .ok (.aload_n 0, 1) := by decide +kernel
theorem dX0_remove_1 : decode cX0_remove 1 = .ok (.getfield 20, 3) := by decide +kernel
theorem dX0_remove_4 : decode cX0_remove 4 = .ok (.ifCond .gt 5, 3) := by decide +kernel
theorem dX0_remove_7 : decode cX0_remove 7 = .ok (.iconst 0, 1) := by decide +kernel
theorem dX0_remove_8 : decode cX0_remove 8 = .ok (.ireturn, 1) := by decide +kernel
theorem dX0_remove_9 : decode cX0_remove 9 = .ok (.aload_n 0, 1) := by decide +kernel
theorem dX0_remove_10 : decode cX0_remove 10 = .ok (.aload_n 0, 1) := by decide +kernel
theorem dX0_remove_11 : decode cX0_remove 11 = .ok (.getfield 16, 3) := by decide +kernel
theorem dX0_remove_14 : decode cX0_remove 14 = .ok (.iconst 0, 1) := by decide +kernel
theorem dX0_remove_15 : decode cX0_remove 15 = .ok (.invokevirtual 27, 3) := by decide +kernel
theorem dX0_remove_18 : decode cX0_remove 18 = .ok (.putfield 24, 3) := by decide +kernel
theorem dX0_remove_21 : decode cX0_remove 21 = .ok (.aload_n 0, 1) := by decide +kernel
theorem dX0_remove_22 : decode cX0_remove 22 = .ok (.dup, 1) := by decide +kernel
theorem dX0_remove_23 : decode cX0_remove 23 = .ok (.getfield 20, 3) := by decide +kernel
theorem dX0_remove_26 : decode cX0_remove 26 = .ok (.iconst 1, 1) := by decide +kernel
theorem dX0_remove_27 : decode cX0_remove 27 = .ok (.isub, 1) := by decide +kernel
theorem dX0_remove_28 : decode cX0_remove 28 = .ok (.putfield 20, 3) := by decide +kernel
theorem dX0_remove_31 : decode cX0_remove 31 = .ok (.aload_n 0, 1) := by decide +kernel
theorem dX0_remove_32 : decode cX0_remove 32 = .ok (.aload_n 0, 1) := by decide +kernel
theorem dX0_remove_33 : decode cX0_remove 33 = .ok (.getfield 16, 3) := by decide +kernel
theorem dX0_remove_36 : decode cX0_remove 36 = .ok (.aload_n 0, 1) := by decide +kernel
theorem dX0_remove_37 : decode cX0_remove 37 = .ok (.getfield 20, 3) := by decide +kernel
theorem dX0_remove_40 : decode cX0_remove 40 = .ok (.invokevirtual 27, 3) := by decide +kernel
theorem dX0_remove_43 : decode cX0_remove 43 = .ok (.invokevirtual 35, 3) := by decide +kernel
theorem dX0_remove_46 : decode cX0_remove 46 = .ok (.iconst 1, 1) := by decide +kernel
theorem dX0_remove_47 : decode cX0_remove 47 = .ok (.ireturn, 1) := by decide +kernel
theorem dX0_removedPlace_0 : decode cX0_removedPlace 0 = .ok (.aload_n 0, 1) := by decide +kernel
theorem dX0_removedPlace_1 : decode cX0_removedPlace 1 = .ok (.getfield 24, 3) := by decide +kernel
theorem dX0_removedPlace_4 : decode cX0_removedPlace 4 = .ok (.sipush 1023, 3) := by decide +kernel
theorem dX0_removedPlace_7 : decode cX0_removedPlace 7 = .ok (.iand, 1) := by decide +kernel
theorem dX0_removedPlace_8 : decode cX0_removedPlace 8 = .ok (.ireturn, 1) := by decide +kernel
theorem dX0_removedRank_0 : decode cX0_removedRank 0 = .ok (.aload_n 0, 1) := by decide +kernel
theorem dX0_removedRank_1 : decode cX0_removedRank 1 = .ok (.getfield 24, 3) := by decide +kernel
theorem dX0_removedRank_4 : decode cX0_removedRank 4 = .ok (.bipush 10, 2) := by decide +kernel
theorem dX0_removedRank_6 : decode cX0_removedRank 6 = .ok (.ishr, 1) := by decide +kernel
theorem dX0_removedRank_7 : decode cX0_removedRank 7 = .ok (.ireturn, 1) := by decide +kernel
theorem dX0_sink_0 : decode cX0_sink 0 = .ok (.iconst 0, 1) := by decide +kernel
theorem dX0_sink_1 : decode cX0_sink 1 = .ok (.istore_n 2, 1) := by decide +kernel
theorem dX0_sink_2 : decode cX0_sink 2 = .ok (.iconst 1, 1) := by decide +kernel
theorem dX0_sink_3 : decode cX0_sink 3 = .ok (.istore_n 3, 1) := by decide +kernel
theorem dX0_sink_4 : decode cX0_sink 4 = .ok (.iload_n 3, 1) := by decide +kernel
theorem dX0_sink_5 : decode cX0_sink 5 = .ok (.aload_n 0, 1) := by decide +kernel
theorem dX0_sink_6 : decode cX0_sink 6 = .ok (.getfield 20, 3) := by decide +kernel
theorem dX0_sink_9 : decode cX0_sink 9 = .ok (.if_icmp .ge 79, 3) := by decide +kernel
theorem dX0_sink_12 : decode cX0_sink 12 = .ok (.iload_n 3, 1) := by decide +kernel
theorem dX0_sink_13 : decode cX0_sink 13 = .ok (.iconst 1, 1) := by decide +kernel
theorem dX0_sink_14 : decode cX0_sink 14 = .ok (.iadd, 1) := by decide +kernel
theorem dX0_sink_15 : decode cX0_sink 15 = .ok (.aload_n 0, 1) := by decide +kernel
theorem dX0_sink_16 : decode cX0_sink 16 = .ok (.getfield 20, 3) := by decide +kernel
theorem dX0_sink_19 : decode cX0_sink 19 = .ok (.if_icmp .ge 27, 3) := by decide +kernel
theorem dX0_sink_22 : decode cX0_sink 22 = .ok (.aload_n 0, 1) := by decide +kernel
theorem dX0_sink_23 : decode cX0_sink 23 = .ok (.getfield 16, 3) := by decide +kernel
theorem dX0_sink_26 : decode cX0_sink 26 = .ok (.iload_n 3, 1) := by decide +kernel
theorem dX0_sink_27 : decode cX0_sink 27 = .ok (.iconst 1, 1) := by decide +kernel
theorem dX0_sink_28 : decode cX0_sink 28 = .ok (.iadd, 1) := by decide +kernel
theorem dX0_sink_29 : decode cX0_sink 29 = .ok (.invokevirtual 27, 3) := by decide +kernel
theorem dX0_sink_32 : decode cX0_sink 32 = .ok (.aload_n 0, 1) := by decide +kernel
theorem dX0_sink_33 : decode cX0_sink 33 = .ok (.getfield 16, 3) := by decide +kernel
theorem dX0_sink_36 : decode cX0_sink 36 = .ok (.iload_n 3, 1) := by decide +kernel
theorem dX0_sink_37 : decode cX0_sink 37 = .ok (.invokevirtual 27, 3) := by decide +kernel
theorem dX0_sink_40 : decode cX0_sink 40 = .ok (.if_icmp .ge 6, 3) := by decide +kernel
theorem dX0_sink_43 : decode cX0_sink 43 = .ok (.iinc 3 1, 3) := by decide +kernel
theorem dX0_sink_46 : decode cX0_sink 46 = .ok (.aload_n 0, 1) := by decide +kernel
theorem dX0_sink_47 : decode cX0_sink 47 = .ok (.getfield 16, 3) := by decide +kernel
theorem dX0_sink_50 : decode cX0_sink 50 = .ok (.iload_n 3, 1) := by decide +kernel
theorem dX0_sink_51 : decode cX0_sink 51 = .ok (.invokevirtual 27, 3) := by decide +kernel
theorem dX0_sink_54 : decode cX0_sink 54 = .ok (.iload_n 1, 1) := by decide +kernel
theorem dX0_sink_55 : decode cX0_sink 55 = .ok (.if_icmp .lt 6, 3) := by decide +kernel
theorem dX0_sink_58 : decode cX0_sink 58 = .ok (.goto 30, 3) := by decide +kernel
theorem dX0_sink_61 : decode cX0_sink 61 = .ok (.aload_n 0, 1) := by decide +kernel
theorem dX0_sink_62 : decode cX0_sink 62 = .ok (.getfield 16, 3) := by decide +kernel
theorem dX0_sink_65 : decode cX0_sink 65 = .ok (.iload_n 2, 1) := by decide +kernel
theorem dX0_sink_66 : decode cX0_sink 66 = .ok (.aload_n 0, 1) := by decide +kernel
theorem dX0_sink_67 : decode cX0_sink 67 = .ok (.getfield 16, 3) := by decide +kernel
theorem dX0_sink_70 : decode cX0_sink 70 = .ok (.iload_n 3, 1) := by decide +kernel
theorem dX0_sink_71 : decode cX0_sink 71 = .ok (.invokevirtual 27, 3) := by decide +kernel
theorem dX0_sink_74 : decode cX0_sink 74 = .ok (.invokevirtual 31, 3) := by decide +kernel
theorem dX0_sink_77 : decode cX0_sink 77 = .ok (.iload_n 3, 1) := by decide +kernel
theorem dX0_sink_78 : decode cX0_sink 78 = .ok (.istore_n 2, 1) := by decide +kernel
theorem dX0_sink_79 : decode cX0_sink 79 = .ok (.iconst 2, 1) := by decide +kernel
theorem dX0_sink_80 : decode cX0_sink 80 = .ok (.iload_n 2, 1) := by decide +kernel
theorem dX0_sink_81 : decode cX0_sink 81 = .ok (.imul, 1) := by decide +kernel
theorem dX0_sink_82 : decode cX0_sink 82 = .ok (.iconst 1, 1) := by decide +kernel
theorem dX0_sink_83 : decode cX0_sink 83 = .ok (.iadd, 1) := by decide +kernel
theorem dX0_sink_84 : decode cX0_sink 84 = .ok (.istore_n 3, 1) := by decide +kernel
theorem dX0_sink_85 : decode cX0_sink 85 = .ok (.goto (-81), 3) := by decide +kernel
theorem dX0_sink_88 : decode cX0_sink 88 = .ok (.aload_n 0, 1) := by decide +kernel
theorem dX0_sink_89 : decode cX0_sink 89 = .ok (.getfield 16, 3) := by decide +kernel
theorem dX0_sink_92 : decode cX0_sink 92 = .ok (.iload_n 2, 1) := by decide +kernel
theorem dX0_sink_93 : decode cX0_sink 93 = .ok (.iload_n 1, 1) := by decide +kernel
theorem dX0_sink_94 : decode cX0_sink 94 = .ok (.invokevirtual 31, 3) := by decide +kernel
theorem dX0_sink_97 : decode cX0_sink 97 = .ok (.return_, 1) := by decide +kernel
theorem dX1_init_0 : decode cX1_init 0 = .ok (.aload_n 0, 1) := by decide +kernel
theorem dX1_init_1 : decode cX1_init 1 = .ok (.invokespecial 3, 3) := by decide +kernel
theorem dX1_init_4 : decode cX1_init 4 = .ok (.aload_n 0, 1) := by decide +kernel
theorem dX1_init_5 : decode cX1_init 5 = .ok (.new 9, 3) := by decide +kernel
theorem dX1_init_8 : decode cX1_init 8 = .ok (.dup, 1) := by decide +kernel
theorem dX1_init_9 : decode cX1_init 9 = .ok (.sipush 3456, 3) := by decide +kernel
theorem dX1_init_12 : decode cX1_init 12 = .ok (.invokespecial 11, 3) := by decide +kernel
theorem dX1_init_15 : decode cX1_init 15 = .ok (.putfield 14, 3) := by decide +kernel
theorem dX1_init_18 : decode cX1_init 18 = .ok (.aload_n 0, 1) := by decide +kernel
theorem dX1_init_19 : decode cX1_init 19 = .ok (.new 9, 3) := by decide +kernel
theorem dX1_init_22 : decode cX1_init 22 = .ok (.dup, 1) := by decide +kernel
theorem dX1_init_23 : decode cX1_init 23 = .ok (.sipush 576, 3) := by decide +kernel
theorem dX1_init_26 : decode cX1_init 26 = .ok (.invokespecial 11, 3) := by decide +kernel
theorem dX1_init_29 : decode cX1_init 29 = .ok (.putfield 20, 3) := by decide +kernel
theorem dX1_init_32 : decode cX1_init 32 = .ok (.aload_n 0, 1) := by decide +kernel
theorem dX1_init_33 : decode cX1_init 33 = .ok (.new 9, 3) := by decide +kernel
theorem dX1_init_36 : decode cX1_init 36 = .ok (.dup, 1) := by decide +kernel
theorem dX1_init_37 : decode cX1_init 37 = .ok (.bipush 6, 2) := by decide +kernel
theorem dX1_init_39 : decode cX1_init 39 = .ok (.invokespecial 11, 3) := by decide +kernel
theorem dX1_init_42 : decode cX1_init 42 = .ok (.putfield 23, 3) := by decide +kernel
theorem dX1_init_45 : decode cX1_init 45 = .ok (.aload_n 0, 1) := by decide +kernel
theorem dX1_init_46 : decode cX1_init 46 = .ok (.new 9, 3) := by decide +kernel
theorem dX1_init_49 : decode cX1_init 49 = .ok (.dup, 1) := by decide +kernel
theorem dX1_init_50 : decode cX1_init 50 = .ok (.bipush 12, 2) := by decide +kernel
theorem dX1_init_52 : decode cX1_init 52 = .ok (.invokespecial 11, 3) := by decide +kernel
theorem dX1_init_55 : decode cX1_init 55 = .ok (.putfield 26, 3) := by decide +kernel
theorem dX1_init_58 : decode cX1_init 58 = .ok (.aload_n 0, 1) := by decide +kernel
theorem dX1_init_59 : decode cX1_init 59 = .ok (.iconst 0, 1) := by decide +kernel
theorem dX1_init_60 : decode cX1_init 60 = .ok (.putfield 29, 3) := by decide +kernel
theorem dX1_init_63 : decode cX1_init 63 = .ok (.aload_n 0, 1) := by decide +kernel
theorem dX1_init_64 : decode cX1_init 64 = .ok (.iconst 0, 1) := by decide +kernel
theorem dX1_init_65 : decode cX1_init 65 = .ok (.putfield 33, 3) := by decide +kernel
theorem dX1_init_68 : decode cX1_init 68 = .ok (.aload_n 0, 1) := by decide +kernel
theorem dX1_init_69 : decode cX1_init 69 = .ok (.iconst 0, 1) := by decide +kernel
theorem dX1_init_70 : decode cX1_init 70 = .ok (.putfield 36, 3) := by decide +kernel
theorem dX1_init_73 : decode cX1_init 73 = .ok (.aload_n 0, 1) := by decide +kernel
theorem dX1_init_74 : decode cX1_init 74 = .ok (.iconst 0, 1) := by decide +kernel
theorem dX1_init_75 : decode cX1_init 75 = .ok (.putfield 39, 3) := by decide +kernel
theorem dX1_init_78 : decode cX1_init 78 = .ok (.return_, 1) := by decide +kernel
theorem dX1_build_0 : decode cX1_build 0 = .ok (.aload_n 0, 1) := by decide +kernel
theorem dX1_build_1 : decode cX1_build 1 = .ok (.iload 5, 2) := by decide +kernel
theorem dX1_build_3 : decode cX1_build 3 = .ok (.putfield 29, 3) := by decide +kernel
theorem dX1_build_6 : decode cX1_build 6 = .ok (.iconst 0, 1) := by decide +kernel
theorem dX1_build_7 : decode cX1_build 7 = .ok (.istore 6, 2) := by decide +kernel
theorem dX1_build_9 : decode cX1_build 9 = .ok (.iload 6, 2) := by decide +kernel
theorem dX1_build_11 : decode cX1_build 11 = .ok (.aload_n 3, 1) := by decide +kernel
theorem dX1_build_12 : decode cX1_build 12 = .ok (.getfield 42, 3) := by decide +kernel
theorem dX1_build_15 : decode cX1_build 15 = .ok (.if_icmp .ge 28, 3) := by decide +kernel
theorem dX1_build_18 : decode cX1_build 18 = .ok (.aload_n 0, 1) := by decide +kernel
theorem dX1_build_19 : decode cX1_build 19 = .ok (.aload_n 1, 1) := by decide +kernel
theorem dX1_build_20 : decode cX1_build 20 = .ok (.aload_n 2, 1) := by decide +kernel
theorem dX1_build_21 : decode cX1_build 21 = .ok (.aload 4, 2) := by decide +kernel
theorem dX1_build_23 : decode cX1_build 23 = .ok (.iload 6, 2) := by decide +kernel
theorem dX1_build_25 : decode cX1_build 25 = .ok (.aload_n 3, 1) := by decide +kernel
theorem dX1_build_26 : decode cX1_build 26 = .ok (.getfield 47, 3) := by decide +kernel
theorem dX1_build_29 : decode cX1_build 29 = .ok (.iload 6, 2) := by decide +kernel
theorem dX1_build_31 : decode cX1_build 31 = .ok (.invokevirtual 50, 3) := by decide +kernel
theorem dX1_build_34 : decode cX1_build 34 = .ok (.invokevirtual 54, 3) := by decide +kernel
theorem dX1_build_37 : decode cX1_build 37 = .ok (.iinc 6 1, 3) := by decide +kernel
theorem dX1_build_40 : decode cX1_build 40 = .ok (.goto (-31), 3) := by decide +kernel
theorem dX1_build_43 : decode cX1_build 43 = .ok (.aload_n 0, 1) := by decide +kernel
theorem dX1_build_44 : decode cX1_build 44 = .ok (.aload_n 3, 1) := by decide +kernel
theorem dX1_build_45 : decode cX1_build 45 = .ok (.getfield 42, 3) := by decide +kernel
theorem dX1_build_48 : decode cX1_build 48 = .ok (.ifCond .le 7, 3) := by decide +kernel
theorem dX1_build_51 : decode cX1_build 51 = .ok (.iconst 1, 1) := by decide +kernel
theorem dX1_build_52 : decode cX1_build 52 = .ok (.goto 4, 3) := by decide +kernel
theorem dX1_build_55 : decode cX1_build 55 = .ok (.iconst 0, 1) := by decide +kernel
theorem dX1_build_56 : decode cX1_build 56 = .ok (.putfield 33, 3) := by decide +kernel
theorem dX1_build_59 : decode cX1_build 59 = .ok (.aload_n 0, 1) := by decide +kernel
theorem dX1_build_60 : decode cX1_build 60 = .ok (.iconst 0, 1) := by decide +kernel
theorem dX1_build_61 : decode cX1_build 61 = .ok (.putfield 36, 3) := by decide +kernel
theorem dX1_build_64 : decode cX1_build 64 = .ok (.aload_n 0, 1) := by decide +kernel
theorem dX1_build_65 : decode cX1_build 65 = .ok (.iconst 0, 1) := by decide +kernel
theorem dX1_build_66 : decode cX1_build 66 = .ok (.putfield 39, 3) := by decide +kernel
theorem dX1_build_69 : decode cX1_build 69 = .ok (.aload_n 0, 1) := by decide +kernel
theorem dX1_build_70 : decode cX1_build 70 = .ok (.getfield 23, 3) := by decide +kernel
theorem dX1_build_73 : decode cX1_build 73 = .ok (.iconst 0, 1) := by decide +kernel
theorem dX1_build_74 : decode cX1_build 74 = .ok (.invokevirtual 58, 3) := by decide +kernel
theorem dX1_build_77 : decode cX1_build 77 = .ok (.aload_n 0, 1) := by decide +kernel
theorem dX1_build_78 : decode cX1_build 78 = .ok (.getfield 23, 3) := by decide +kernel
theorem dX1_build_81 : decode cX1_build 81 = .ok (.iconst 0, 1) := by decide +kernel
theorem dX1_build_82 : decode cX1_build 82 = .ok (.iconst 1, 1) := by decide +kernel
theorem dX1_build_83 : decode cX1_build 83 = .ok (.invokevirtual 61, 3) := by decide +kernel
theorem dX1_build_86 : decode cX1_build 86 = .ok (.iconst 1, 1) := by decide +kernel
theorem dX1_build_87 : decode cX1_build 87 = .ok (.istore 6, 2) := by decide +kernel
theorem dX1_build_89 : decode cX1_build 89 = .ok (.iload 6, 2) := by decide +kernel
theorem dX1_build_91 : decode cX1_build 91 = .ok (.aload_n 3, 1) := by decide +kernel
theorem dX1_build_92 : decode cX1_build 92 = .ok (.getfield 42, 3) := by decide +kernel
theorem dX1_build_95 : decode cX1_build 95 = .ok (.if_icmp .ge 14, 3) := by decide +kernel
theorem dX1_build_98 : decode cX1_build 98 = .ok (.aload_n 0, 1) := by decide +kernel
theorem dX1_build_99 : decode cX1_build 99 = .ok (.aload_n 3, 1) := by decide +kernel
theorem dX1_build_100 : decode cX1_build 100 = .ok (.invokevirtual 65, 3) := by decide +kernel
theorem dX1_build_103 : decode cX1_build 103 = .ok (.iinc 6 1, 3) := by decide +kernel
theorem dX1_build_106 : decode cX1_build 106 = .ok (.goto (-17), 3) := by decide +kernel
theorem dX1_build_109 : decode cX1_build 109 = .ok (.aload_n 0, 1) := by decide +kernel
theorem dX1_build_110 : decode cX1_build 110 = .ok (.getfield 20, 3) := by decide +kernel
theorem dX1_build_113 : decode cX1_build 113 = .ok (.iconst 0, 1) := by decide +kernel
theorem dX1_build_114 : decode cX1_build 114 = .ok (.invokevirtual 58, 3) := by decide +kernel
theorem dX1_build_117 : decode cX1_build 117 = .ok (.iconst 0, 1) := by decide +kernel
theorem dX1_build_118 : decode cX1_build 118 = .ok (.istore 6, 2) := by decide +kernel
theorem dX1_build_120 : decode cX1_build 120 = .ok (.iload 6, 2) := by decide +kernel
theorem dX1_build_122 : decode cX1_build 122 = .ok (.aload_n 0, 1) := by decide +kernel
theorem dX1_build_123 : decode cX1_build 123 = .ok (.getfield 39, 3) := by decide +kernel
theorem dX1_build_126 : decode cX1_build 126 = .ok (.if_icmp .ge 46, 3) := by decide +kernel
theorem dX1_build_129 : decode cX1_build 129 = .ok (.aload_n 0, 1) := by decide +kernel
theorem dX1_build_130 : decode cX1_build 130 = .ok (.aload_n 1, 1) := by decide +kernel
theorem dX1_build_131 : decode cX1_build 131 = .ok (.aload_n 2, 1) := by decide +kernel
theorem dX1_build_132 : decode cX1_build 132 = .ok (.aload_n 3, 1) := by decide +kernel
theorem dX1_build_133 : decode cX1_build 133 = .ok (.getfield 47, 3) := by decide +kernel
theorem dX1_build_136 : decode cX1_build 136 = .ok (.aload_n 0, 1) := by decide +kernel
theorem dX1_build_137 : decode cX1_build 137 = .ok (.getfield 26, 3) := by decide +kernel
theorem dX1_build_140 : decode cX1_build 140 = .ok (.iconst 2, 1) := by decide +kernel
theorem dX1_build_141 : decode cX1_build 141 = .ok (.iload 6, 2) := by decide +kernel
theorem dX1_build_143 : decode cX1_build 143 = .ok (.imul, 1) := by decide +kernel
theorem dX1_build_144 : decode cX1_build 144 = .ok (.invokevirtual 50, 3) := by decide +kernel
theorem dX1_build_147 : decode cX1_build 147 = .ok (.invokevirtual 50, 3) := by decide +kernel
theorem dX1_build_150 : decode cX1_build 150 = .ok (.aload_n 0, 1) := by decide +kernel
theorem dX1_build_151 : decode cX1_build 151 = .ok (.getfield 26, 3) := by decide +kernel
theorem dX1_build_154 : decode cX1_build 154 = .ok (.iconst 2, 1) := by decide +kernel
theorem dX1_build_155 : decode cX1_build 155 = .ok (.iload 6, 2) := by decide +kernel
theorem dX1_build_157 : decode cX1_build 157 = .ok (.imul, 1) := by decide +kernel
theorem dX1_build_158 : decode cX1_build 158 = .ok (.iconst 1, 1) := by decide +kernel
theorem dX1_build_159 : decode cX1_build 159 = .ok (.iadd, 1) := by decide +kernel
theorem dX1_build_160 : decode cX1_build 160 = .ok (.invokevirtual 50, 3) := by decide +kernel
theorem dX1_build_163 : decode cX1_build 163 = .ok (.invokevirtual 69, 3) := by decide +kernel
theorem dX1_build_166 : decode cX1_build 166 = .ok (.iinc 6 1, 3) := by decide +kernel
theorem dX1_build_169 : decode cX1_build 169 = .ok (.goto (-49), 3) := by decide +kernel
theorem dX1_build_172 : decode cX1_build 172 = .ok (.return_, 1) := by decide +kernel
theorem dX1_costOf_0 : decode cX1_costOf 0 = .ok (.aload_n 0, 1) := by decide +kernel
theorem dX1_costOf_1 : decode cX1_costOf 1 = .ok (.getfield 14, 3) := by decide +kernel
theorem dX1_costOf_4 : decode cX1_costOf 4 = .ok (.sipush 576, 3) := by decide +kernel
theorem dX1_costOf_7 : decode cX1_costOf 7 = .ok (.iload_n 2, 1) := by decide +kernel
theorem dX1_costOf_8 : decode cX1_costOf 8 = .ok (.imul, 1) := by decide +kernel
theorem dX1_costOf_9 : decode cX1_costOf 9 = .ok (.iload_n 1, 1) := by decide +kernel
theorem dX1_costOf_10 : decode cX1_costOf 10 = .ok (.iadd, 1) := by decide +kernel
theorem dX1_costOf_11 : decode cX1_costOf 11 = .ok (.invokevirtual 50, 3) := by decide +kernel
theorem dX1_costOf_14 : decode cX1_costOf 14 = .ok (.ireturn, 1) := by decide +kernel
theorem dX1_findCosts_0 : decode cX1_findCosts 0 = .ok (.sipush 576, 3) := by decide +kernel
theorem dX1_findCosts_3 : decode cX1_findCosts 3 = .ok (.iload 4, 2) := by decide +kernel
theorem dX1_findCosts_5 : decode cX1_findCosts 5 = .ok (.imul, 1) := by decide +kernel
theorem dX1_findCosts_6 : decode cX1_findCosts 6 = .ok (.istore 6, 2) := by decide +kernel
theorem dX1_findCosts_8 : decode cX1_findCosts 8 = .ok (.iconst 0, 1) := by decide +kernel
theorem dX1_findCosts_9 : decode cX1_findCosts 9 = .ok (.istore 7, 2) := by decide +kernel
theorem dX1_findCosts_11 : decode cX1_findCosts 11 = .ok (.iload 7, 2) := by decide +kernel
theorem dX1_findCosts_13 : decode cX1_findCosts 13 = .ok (.aload_n 1, 1) := by decide +kernel
theorem dX1_findCosts_14 : decode cX1_findCosts 14 = .ok (.getfield 73, 3) := by decide +kernel
theorem dX1_findCosts_17 : decode cX1_findCosts 17 = .ok (.if_icmp .ge 23, 3) := by decide +kernel
theorem dX1_findCosts_20 : decode cX1_findCosts 20 = .ok (.aload_n 0, 1) := by decide +kernel
theorem dX1_findCosts_21 : decode cX1_findCosts 21 = .ok (.getfield 14, 3) := by decide +kernel
theorem dX1_findCosts_24 : decode cX1_findCosts 24 = .ok (.iload 6, 2) := by decide +kernel
theorem dX1_findCosts_26 : decode cX1_findCosts 26 = .ok (.iload 7, 2) := by decide +kernel
theorem dX1_findCosts_28 : decode cX1_findCosts 28 = .ok (.iadd, 1) := by decide +kernel
theorem dX1_findCosts_29 : decode cX1_findCosts 29 = .ok (.bipush (-6), 2) := by decide +kernel
theorem dX1_findCosts_31 : decode cX1_findCosts 31 = .ok (.invokevirtual 61, 3) := by decide +kernel
theorem dX1_findCosts_34 : decode cX1_findCosts 34 = .ok (.iinc 7 1, 3) := by decide +kernel
theorem dX1_findCosts_37 : decode cX1_findCosts 37 = .ok (.goto (-26), 3) := by decide +kernel
theorem dX1_findCosts_40 : decode cX1_findCosts 40 = .ok (.aload_n 3, 1) := by decide +kernel
theorem dX1_findCosts_41 : decode cX1_findCosts 41 = .ok (.invokevirtual 78, 3) := by decide +kernel
theorem dX1_findCosts_44 : decode cX1_findCosts 44 = .ok (.aload_n 0, 1) := by decide +kernel
theorem dX1_findCosts_45 : decode cX1_findCosts 45 = .ok (.getfield 14, 3) := by decide +kernel
theorem dX1_findCosts_48 : decode cX1_findCosts 48 = .ok (.iload 6, 2) := by decide +kernel
theorem dX1_findCosts_50 : decode cX1_findCosts 50 = .ok (.iload 5, 2) := by decide +kernel
theorem dX1_findCosts_52 : decode cX1_findCosts 52 = .ok (.iadd, 1) := by decide +kernel
theorem dX1_findCosts_53 : decode cX1_findCosts 53 = .ok (.iconst 0, 1) := by decide +kernel
theorem dX1_findCosts_54 : decode cX1_findCosts 54 = .ok (.invokevirtual 61, 3) := by decide +kernel
theorem dX1_findCosts_57 : decode cX1_findCosts 57 = .ok (.aload_n 3, 1) := by decide +kernel
theorem dX1_findCosts_58 : decode cX1_findCosts 58 = .ok (.iconst 0, 1) := by decide +kernel
theorem dX1_findCosts_59 : decode cX1_findCosts 59 = .ok (.iload 5, 2) := by decide +kernel
theorem dX1_findCosts_61 : decode cX1_findCosts 61 = .ok (.invokevirtual 83, 3) := by decide +kernel
theorem dX1_findCosts_64 : decode cX1_findCosts 64 = .ok (.iconst 0, 1) := by decide +kernel
theorem dX1_findCosts_65 : decode cX1_findCosts 65 = .ok (.istore 7, 2) := by decide +kernel
theorem dX1_findCosts_67 : decode cX1_findCosts 67 = .ok (.iload 7, 2) := by decide +kernel
theorem dX1_findCosts_69 : decode cX1_findCosts 69 = .ok (.sipush 2308, 3) := by decide +kernel
theorem dX1_findCosts_72 : decode cX1_findCosts 72 = .ok (.if_icmp .ge 56, 3) := by decide +kernel
theorem dX1_findCosts_75 : decode cX1_findCosts 75 = .ok (.aload_n 3, 1) := by decide +kernel
theorem dX1_findCosts_76 : decode cX1_findCosts 76 = .ok (.invokevirtual 86, 3) := by decide +kernel
theorem dX1_findCosts_79 : decode cX1_findCosts 79 = .ok (.ifCond .eq 49, 3) := by decide +kernel
theorem dX1_findCosts_82 : decode cX1_findCosts 82 = .ok (.aload_n 3, 1) := by decide +kernel
theorem dX1_findCosts_83 : decode cX1_findCosts 83 = .ok (.invokevirtual 90, 3) := by decide +kernel
theorem dX1_findCosts_86 : decode cX1_findCosts 86 = .ok (.istore 8, 2) := by decide +kernel
theorem dX1_findCosts_88 : decode cX1_findCosts 88 = .ok (.aload_n 3, 1) := by decide +kernel
theorem dX1_findCosts_89 : decode cX1_findCosts 89 = .ok (.invokevirtual 94, 3) := by decide +kernel
theorem dX1_findCosts_92 : decode cX1_findCosts 92 = .ok (.istore 9, 2) := by decide +kernel
theorem dX1_findCosts_94 : decode cX1_findCosts 94 = .ok (.iload 9, 2) := by decide +kernel
theorem dX1_findCosts_96 : decode cX1_findCosts 96 = .ok (.aload_n 0, 1) := by decide +kernel
theorem dX1_findCosts_97 : decode cX1_findCosts 97 = .ok (.getfield 14, 3) := by decide +kernel
theorem dX1_findCosts_100 : decode cX1_findCosts 100 = .ok (.iload 6, 2) := by decide +kernel
theorem dX1_findCosts_102 : decode cX1_findCosts 102 = .ok (.iload 8, 2) := by decide +kernel
theorem dX1_findCosts_104 : decode cX1_findCosts 104 = .ok (.iadd, 1) := by decide +kernel
theorem dX1_findCosts_105 : decode cX1_findCosts 105 = .ok (.invokevirtual 50, 3) := by decide +kernel
theorem dX1_findCosts_108 : decode cX1_findCosts 108 = .ok (.if_icmp .ne 14, 3) := by decide +kernel
theorem dX1_findCosts_111 : decode cX1_findCosts 111 = .ok (.aload_n 0, 1) := by decide +kernel
theorem dX1_findCosts_112 : decode cX1_findCosts 112 = .ok (.aload_n 1, 1) := by decide +kernel
theorem dX1_findCosts_113 : decode cX1_findCosts 113 = .ok (.aload_n 2, 1) := by decide +kernel
theorem dX1_findCosts_114 : decode cX1_findCosts 114 = .ok (.aload_n 3, 1) := by decide +kernel
theorem dX1_findCosts_115 : decode cX1_findCosts 115 = .ok (.iload 6, 2) := by decide +kernel
theorem dX1_findCosts_117 : decode cX1_findCosts 117 = .ok (.iload 8, 2) := by decide +kernel
theorem dX1_findCosts_119 : decode cX1_findCosts 119 = .ok (.invokevirtual 97, 3) := by decide +kernel
theorem dX1_findCosts_122 : decode cX1_findCosts 122 = .ok (.iinc 7 1, 3) := by decide +kernel
theorem dX1_findCosts_125 : decode cX1_findCosts 125 = .ok (.goto (-58), 3) := by decide +kernel
theorem dX1_findCosts_128 : decode cX1_findCosts 128 = .ok (.return_, 1) := by decide +kernel
theorem dX1_spreadCosts_0 : decode cX1_spreadCosts 0 = .ok (.iconst 0, 1) := by decide +kernel
theorem dX1_spreadCosts_1 : decode cX1_spreadCosts 1 = .ok (.istore 6, 2) := by decide +kernel
theorem dX1_spreadCosts_3 : decode cX1_spreadCosts 3 = .ok (.iload 6, 2) := by decide +kernel
theorem dX1_spreadCosts_5 : decode cX1_spreadCosts 5 = .ok (.iconst 4, 1) := by decide +kernel
theorem dX1_spreadCosts_6 : decode cX1_spreadCosts 6 = .ok (.if_icmp .ge 110, 3) := by decide +kernel
theorem dX1_spreadCosts_9 : decode cX1_spreadCosts 9 = .ok (.aload_n 1, 1) := by decide +kernel
theorem dX1_spreadCosts_10 : decode cX1_spreadCosts 10 = .ok (.iload 5, 2) := by decide +kernel
theorem dX1_spreadCosts_12 : decode cX1_spreadCosts 12 = .ok (.iload 6, 2) := by decide +kernel
theorem dX1_spreadCosts_14 : decode cX1_spreadCosts 14 = .ok (.invokevirtual 100, 3) := by decide +kernel
theorem dX1_spreadCosts_17 : decode cX1_spreadCosts 17 = .ok (.istore 7, 2) := by decide +kernel
theorem dX1_spreadCosts_19 : decode cX1_spreadCosts 19 = .ok (.iload 7, 2) := by decide +kernel
theorem dX1_spreadCosts_21 : decode cX1_spreadCosts 21 = .ok (.bipush (-6), 2) := by decide +kernel
theorem dX1_spreadCosts_23 : decode cX1_spreadCosts 23 = .ok (.if_icmp .eq 87, 3) := by decide +kernel
theorem dX1_spreadCosts_26 : decode cX1_spreadCosts 26 = .ok (.aload_n 2, 1) := by decide +kernel
theorem dX1_spreadCosts_27 : decode cX1_spreadCosts 27 = .ok (.iload 7, 2) := by decide +kernel
theorem dX1_spreadCosts_29 : decode cX1_spreadCosts 29 = .ok (.invokevirtual 104, 3) := by decide +kernel
theorem dX1_spreadCosts_32 : decode cX1_spreadCosts 32 = .ok (.ifCond .eq 78, 3) := by decide +kernel
theorem dX1_spreadCosts_35 : decode cX1_spreadCosts 35 = .ok (.aload_n 0, 1) := by decide +kernel
theorem dX1_spreadCosts_36 : decode cX1_spreadCosts 36 = .ok (.getfield 14, 3) := by decide +kernel
theorem dX1_spreadCosts_39 : decode cX1_spreadCosts 39 = .ok (.iload 4, 2) := by decide +kernel
theorem dX1_spreadCosts_41 : decode cX1_spreadCosts 41 = .ok (.iload 5, 2) := by decide +kernel
theorem dX1_spreadCosts_43 : decode cX1_spreadCosts 43 = .ok (.iadd, 1) := by decide +kernel
theorem dX1_spreadCosts_44 : decode cX1_spreadCosts 44 = .ok (.invokevirtual 50, 3) := by decide +kernel
theorem dX1_spreadCosts_47 : decode cX1_spreadCosts 47 = .ok (.aload_n 0, 1) := by decide +kernel
theorem dX1_spreadCosts_48 : decode cX1_spreadCosts 48 = .ok (.aload_n 1, 1) := by decide +kernel
theorem dX1_spreadCosts_49 : decode cX1_spreadCosts 49 = .ok (.aload_n 2, 1) := by decide +kernel
theorem dX1_spreadCosts_50 : decode cX1_spreadCosts 50 = .ok (.iload 5, 2) := by decide +kernel
theorem dX1_spreadCosts_52 : decode cX1_spreadCosts 52 = .ok (.iload 7, 2) := by decide +kernel
theorem dX1_spreadCosts_54 : decode cX1_spreadCosts 54 = .ok (.invokevirtual 110, 3) := by decide +kernel
theorem dX1_spreadCosts_57 : decode cX1_spreadCosts 57 = .ok (.iadd, 1) := by decide +kernel
theorem dX1_spreadCosts_58 : decode cX1_spreadCosts 58 = .ok (.istore 8, 2) := by decide +kernel
theorem dX1_spreadCosts_60 : decode cX1_spreadCosts 60 = .ok (.aload_n 0, 1) := by decide +kernel
theorem dX1_spreadCosts_61 : decode cX1_spreadCosts 61 = .ok (.getfield 14, 3) := by decide +kernel
theorem dX1_spreadCosts_64 : decode cX1_spreadCosts 64 = .ok (.iload 4, 2) := by decide +kernel
theorem dX1_spreadCosts_66 : decode cX1_spreadCosts 66 = .ok (.iload 7, 2) := by decide +kernel
theorem dX1_spreadCosts_68 : decode cX1_spreadCosts 68 = .ok (.iadd, 1) := by decide +kernel
theorem dX1_spreadCosts_69 : decode cX1_spreadCosts 69 = .ok (.invokevirtual 50, 3) := by decide +kernel
theorem dX1_spreadCosts_72 : decode cX1_spreadCosts 72 = .ok (.istore 9, 2) := by decide +kernel
theorem dX1_spreadCosts_74 : decode cX1_spreadCosts 74 = .ok (.iload 9, 2) := by decide +kernel
theorem dX1_spreadCosts_76 : decode cX1_spreadCosts 76 = .ok (.bipush (-6), 2) := by decide +kernel
theorem dX1_spreadCosts_78 : decode cX1_spreadCosts 78 = .ok (.if_icmp .eq 10, 3) := by decide +kernel
theorem dX1_spreadCosts_81 : decode cX1_spreadCosts 81 = .ok (.iload 8, 2) := by decide +kernel
theorem dX1_spreadCosts_83 : decode cX1_spreadCosts 83 = .ok (.iload 9, 2) := by decide +kernel
theorem dX1_spreadCosts_85 : decode cX1_spreadCosts 85 = .ok (.if_icmp .ge 25, 3) := by decide +kernel
theorem dX1_spreadCosts_88 : decode cX1_spreadCosts 88 = .ok (.aload_n 0, 1) := by decide +kernel
theorem dX1_spreadCosts_89 : decode cX1_spreadCosts 89 = .ok (.getfield 14, 3) := by decide +kernel
theorem dX1_spreadCosts_92 : decode cX1_spreadCosts 92 = .ok (.iload 4, 2) := by decide +kernel
theorem dX1_spreadCosts_94 : decode cX1_spreadCosts 94 = .ok (.iload 7, 2) := by decide +kernel
theorem dX1_spreadCosts_96 : decode cX1_spreadCosts 96 = .ok (.iadd, 1) := by decide +kernel
theorem dX1_spreadCosts_97 : decode cX1_spreadCosts 97 = .ok (.iload 8, 2) := by decide +kernel
theorem dX1_spreadCosts_99 : decode cX1_spreadCosts 99 = .ok (.invokevirtual 61, 3) := by decide +kernel
theorem dX1_spreadCosts_102 : decode cX1_spreadCosts 102 = .ok (.aload_n 3, 1) := by decide +kernel
theorem dX1_spreadCosts_103 : decode cX1_spreadCosts 103 = .ok (.iload 8, 2) := by decide +kernel
theorem dX1_spreadCosts_105 : decode cX1_spreadCosts 105 = .ok (.iload 7, 2) := by decide +kernel
theorem dX1_spreadCosts_107 : decode cX1_spreadCosts 107 = .ok (.invokevirtual 83, 3) := by decide +kernel
theorem dX1_spreadCosts_110 : decode cX1_spreadCosts 110 = .ok (.iinc 6 1, 3) := by decide +kernel
theorem dX1_spreadCosts_113 : decode cX1_spreadCosts 113 = .ok (.goto (-110), 3) := by decide +kernel
theorem dX1_spreadCosts_116 : decode cX1_spreadCosts 116 = .ok (.return_, 1) := by decide +kernel
theorem dX1_stepCost_0 : decode cX1_stepCost 0 = .ok (.aload_n 2, 1) := by decide +kernel
theorem dX1_stepCost_1 : decode cX1_stepCost 1 = .ok (.getfield 114, 3) := by decide +kernel
theorem dX1_stepCost_4 : decode cX1_stepCost 4 = .ok (.iload_n 3, 1) := by decide +kernel
theorem dX1_stepCost_5 : decode cX1_stepCost 5 = .ok (.invokevirtual 50, 3) := by decide +kernel
theorem dX1_stepCost_8 : decode cX1_stepCost 8 = .ok (.iconst 4, 1) := by decide +kernel
theorem dX1_stepCost_9 : decode cX1_stepCost 9 = .ok (.if_icmp .eq 16, 3) := by decide +kernel
theorem dX1_stepCost_12 : decode cX1_stepCost 12 = .ok (.aload_n 2, 1) := by decide +kernel
theorem dX1_stepCost_13 : decode cX1_stepCost 13 = .ok (.getfield 114, 3) := by decide +kernel
theorem dX1_stepCost_16 : decode cX1_stepCost 16 = .ok (.iload 4, 2) := by decide +kernel
theorem dX1_stepCost_18 : decode cX1_stepCost 18 = .ok (.invokevirtual 50, 3) := by decide +kernel
theorem dX1_stepCost_21 : decode cX1_stepCost 21 = .ok (.iconst 4, 1) := by decide +kernel
theorem dX1_stepCost_22 : decode cX1_stepCost 22 = .ok (.if_icmp .ne 7, 3) := by decide +kernel
theorem dX1_stepCost_25 : decode cX1_stepCost 25 = .ok (.iconst 1, 1) := by decide +kernel
theorem dX1_stepCost_26 : decode cX1_stepCost 26 = .ok (.goto 4, 3) := by decide +kernel
theorem dX1_stepCost_29 : decode cX1_stepCost 29 = .ok (.iconst 0, 1) := by decide +kernel
theorem dX1_stepCost_30 : decode cX1_stepCost 30 = .ok (.istore 5, 2) := by decide +kernel
theorem dX1_stepCost_32 : decode cX1_stepCost 32 = .ok (.bipush 10, 2) := by decide +kernel
theorem dX1_stepCost_34 : decode cX1_stepCost 34 = .ok (.aload_n 1, 1) := by decide +kernel
theorem dX1_stepCost_35 : decode cX1_stepCost 35 = .ok (.getfield 117, 3) := by decide +kernel
theorem dX1_stepCost_38 : decode cX1_stepCost 38 = .ok (.iload_n 3, 1) := by decide +kernel
theorem dX1_stepCost_39 : decode cX1_stepCost 39 = .ok (.invokevirtual 50, 3) := by decide +kernel
theorem dX1_stepCost_42 : decode cX1_stepCost 42 = .ok (.aload_n 1, 1) := by decide +kernel
theorem dX1_stepCost_43 : decode cX1_stepCost 43 = .ok (.getfield 117, 3) := by decide +kernel
theorem dX1_stepCost_46 : decode cX1_stepCost 46 = .ok (.iload 4, 2) := by decide +kernel
theorem dX1_stepCost_48 : decode cX1_stepCost 48 = .ok (.invokevirtual 50, 3) := by decide +kernel
theorem dX1_stepCost_51 : decode cX1_stepCost 51 = .ok (.isub, 1) := by decide +kernel
theorem dX1_stepCost_52 : decode cX1_stepCost 52 = .ok (.invokestatic 120, 3) := by decide +kernel
theorem dX1_stepCost_55 : decode cX1_stepCost 55 = .ok (.iadd, 1) := by decide +kernel
theorem dX1_stepCost_56 : decode cX1_stepCost 56 = .ok (.iload 5, 2) := by decide +kernel
theorem dX1_stepCost_58 : decode cX1_stepCost 58 = .ok (.ifCond .eq 10, 3) := by decide +kernel
theorem dX1_stepCost_61 : decode cX1_stepCost 61 = .ok (.aload_n 0, 1) := by decide +kernel
theorem dX1_stepCost_62 : decode cX1_stepCost 62 = .ok (.getfield 29, 3) := by decide +kernel
theorem dX1_stepCost_65 : decode cX1_stepCost 65 = .ok (.goto 4, 3) := by decide +kernel
theorem dX1_stepCost_68 : decode cX1_stepCost 68 = .ok (.iconst 0, 1) := by decide +kernel
theorem dX1_stepCost_69 : decode cX1_stepCost 69 = .ok (.iadd, 1) := by decide +kernel
theorem dX1_stepCost_70 : decode cX1_stepCost 70 = .ok (.ireturn, 1) := by decide +kernel
theorem dX1_nextPlace_0 : decode cX1_nextPlace 0 = .ok (.iconst 0, 1) := by decide +kernel
theorem dX1_nextPlace_1 : decode cX1_nextPlace 1 = .ok (.istore 5, 2) := by decide +kernel
theorem dX1_nextPlace_3 : decode cX1_nextPlace 3 = .ok (.iload 5, 2) := by decide +kernel
theorem dX1_nextPlace_5 : decode cX1_nextPlace 5 = .ok (.iconst 4, 1) := by decide +kernel
theorem dX1_nextPlace_6 : decode cX1_nextPlace 6 = .ok (.if_icmp .ge 78, 3) := by decide +kernel
theorem dX1_nextPlace_9 : decode cX1_nextPlace 9 = .ok (.aload_n 1, 1) := by decide +kernel
theorem dX1_nextPlace_10 : decode cX1_nextPlace 10 = .ok (.iload_n 3, 1) := by decide +kernel
theorem dX1_nextPlace_11 : decode cX1_nextPlace 11 = .ok (.iload 5, 2) := by decide +kernel
theorem dX1_nextPlace_13 : decode cX1_nextPlace 13 = .ok (.invokevirtual 100, 3) := by decide +kernel
theorem dX1_nextPlace_16 : decode cX1_nextPlace 16 = .ok (.istore 6, 2) := by decide +kernel
theorem dX1_nextPlace_18 : decode cX1_nextPlace 18 = .ok (.iload 6, 2) := by decide +kernel
theorem dX1_nextPlace_20 : decode cX1_nextPlace 20 = .ok (.bipush (-6), 2) := by decide +kernel
theorem dX1_nextPlace_22 : decode cX1_nextPlace 22 = .ok (.if_icmp .eq 56, 3) := by decide +kernel
theorem dX1_nextPlace_25 : decode cX1_nextPlace 25 = .ok (.aload_n 2, 1) := by decide +kernel
theorem dX1_nextPlace_26 : decode cX1_nextPlace 26 = .ok (.iload 6, 2) := by decide +kernel
theorem dX1_nextPlace_28 : decode cX1_nextPlace 28 = .ok (.invokevirtual 104, 3) := by decide +kernel
theorem dX1_nextPlace_31 : decode cX1_nextPlace 31 = .ok (.ifCond .eq 47, 3) := by decide +kernel
theorem dX1_nextPlace_34 : decode cX1_nextPlace 34 = .ok (.aload_n 0, 1) := by decide +kernel
theorem dX1_nextPlace_35 : decode cX1_nextPlace 35 = .ok (.iload 6, 2) := by decide +kernel
theorem dX1_nextPlace_37 : decode cX1_nextPlace 37 = .ok (.iload 4, 2) := by decide +kernel
theorem dX1_nextPlace_39 : decode cX1_nextPlace 39 = .ok (.invokevirtual 125, 3) := by decide +kernel
theorem dX1_nextPlace_42 : decode cX1_nextPlace 42 = .ok (.bipush (-6), 2) := by decide +kernel
theorem dX1_nextPlace_44 : decode cX1_nextPlace 44 = .ok (.if_icmp .eq 34, 3) := by decide +kernel
theorem dX1_nextPlace_47 : decode cX1_nextPlace 47 = .ok (.aload_n 0, 1) := by decide +kernel
theorem dX1_nextPlace_48 : decode cX1_nextPlace 48 = .ok (.iload 6, 2) := by decide +kernel
theorem dX1_nextPlace_50 : decode cX1_nextPlace 50 = .ok (.iload 4, 2) := by decide +kernel
theorem dX1_nextPlace_52 : decode cX1_nextPlace 52 = .ok (.invokevirtual 125, 3) := by decide +kernel
theorem dX1_nextPlace_55 : decode cX1_nextPlace 55 = .ok (.aload_n 0, 1) := by decide +kernel
theorem dX1_nextPlace_56 : decode cX1_nextPlace 56 = .ok (.aload_n 1, 1) := by decide +kernel
theorem dX1_nextPlace_57 : decode cX1_nextPlace 57 = .ok (.aload_n 2, 1) := by decide +kernel
theorem dX1_nextPlace_58 : decode cX1_nextPlace 58 = .ok (.iload_n 3, 1) := by decide +kernel
theorem dX1_nextPlace_59 : decode cX1_nextPlace 59 = .ok (.iload 6, 2) := by decide +kernel
theorem dX1_nextPlace_61 : decode cX1_nextPlace 61 = .ok (.invokevirtual 110, 3) := by decide +kernel
theorem dX1_nextPlace_64 : decode cX1_nextPlace 64 = .ok (.iadd, 1) := by decide +kernel
theorem dX1_nextPlace_65 : decode cX1_nextPlace 65 = .ok (.aload_n 0, 1) := by decide +kernel
theorem dX1_nextPlace_66 : decode cX1_nextPlace 66 = .ok (.iload_n 3, 1) := by decide +kernel
theorem dX1_nextPlace_67 : decode cX1_nextPlace 67 = .ok (.iload 4, 2) := by decide +kernel
theorem dX1_nextPlace_69 : decode cX1_nextPlace 69 = .ok (.invokevirtual 125, 3) := by decide +kernel
theorem dX1_nextPlace_72 : decode cX1_nextPlace 72 = .ok (.if_icmp .ne 6, 3) := by decide +kernel
theorem dX1_nextPlace_75 : decode cX1_nextPlace 75 = .ok (.iload 6, 2) := by decide +kernel
theorem dX1_nextPlace_77 : decode cX1_nextPlace 77 = .ok (.ireturn, 1) := by decide +kernel
theorem dX1_nextPlace_78 : decode cX1_nextPlace 78 = .ok (.iinc 5 1, 3) := by decide +kernel
theorem dX1_nextPlace_81 : decode cX1_nextPlace 81 = .ok (.goto (-78), 3) := by decide +kernel
theorem dX1_nextPlace_84 : decode cX1_nextPlace 84 = .ok (.bipush (-6), 2) := by decide +kernel
theorem dX1_nextPlace_86 : decode cX1_nextPlace 86 = .ok (.ireturn, 1) := by decide +kernel
theorem dX1_placeOfWay_0 : decode cX1_placeOfWay 0 = .ok (.iload 5, 2) := by decide +kernel
theorem dX1_placeOfWay_2 : decode cX1_placeOfWay 2 = .ok (.ifCond .lt 24, 3) := by decide +kernel
theorem dX1_placeOfWay_5 : decode cX1_placeOfWay 5 = .ok (.iload 5, 2) := by decide +kernel
theorem dX1_placeOfWay_7 : decode cX1_placeOfWay 7 = .ok (.aload_n 1, 1) := by decide +kernel
theorem dX1_placeOfWay_8 : decode cX1_placeOfWay 8 = .ok (.getfield 73, 3) := by decide +kernel
theorem dX1_placeOfWay_11 : decode cX1_placeOfWay 11 = .ok (.if_icmp .ge 15, 3) := by decide +kernel
theorem dX1_placeOfWay_14 : decode cX1_placeOfWay 14 = .ok (.aload_n 0, 1) := by decide +kernel
theorem dX1_placeOfWay_15 : decode cX1_placeOfWay 15 = .ok (.iload_n 3, 1) := by decide +kernel
theorem dX1_placeOfWay_16 : decode cX1_placeOfWay 16 = .ok (.iload 4, 2) := by decide +kernel
theorem dX1_placeOfWay_18 : decode cX1_placeOfWay 18 = .ok (.invokevirtual 125, 3) := by decide +kernel
theorem dX1_placeOfWay_21 : decode cX1_placeOfWay 21 = .ok (.bipush (-6), 2) := by decide +kernel
theorem dX1_placeOfWay_23 : decode cX1_placeOfWay 23 = .ok (.if_icmp .ne 6, 3) := by decide +kernel
theorem dX1_placeOfWay_26 : decode cX1_placeOfWay 26 = .ok (.bipush (-6), 2) := by decide +kernel
theorem dX1_placeOfWay_28 : decode cX1_placeOfWay 28 = .ok (.ireturn, 1) := by decide +kernel
theorem dX1_placeOfWay_29 : decode cX1_placeOfWay 29 = .ok (.iload_n 3, 1) := by decide +kernel
theorem dX1_placeOfWay_30 : decode cX1_placeOfWay 30 = .ok (.istore 6, 2) := by decide +kernel
theorem dX1_placeOfWay_32 : decode cX1_placeOfWay 32 = .ok (.iconst 0, 1) := by decide +kernel
theorem dX1_placeOfWay_33 : decode cX1_placeOfWay 33 = .ok (.istore 7, 2) := by decide +kernel
theorem dX1_placeOfWay_35 : decode cX1_placeOfWay 35 = .ok (.iload 7, 2) := by decide +kernel
theorem dX1_placeOfWay_37 : decode cX1_placeOfWay 37 = .ok (.iload 5, 2) := by decide +kernel
theorem dX1_placeOfWay_39 : decode cX1_placeOfWay 39 = .ok (.if_icmp .ge 28, 3) := by decide +kernel
theorem dX1_placeOfWay_42 : decode cX1_placeOfWay 42 = .ok (.iload 6, 2) := by decide +kernel
theorem dX1_placeOfWay_44 : decode cX1_placeOfWay 44 = .ok (.bipush (-6), 2) := by decide +kernel
theorem dX1_placeOfWay_46 : decode cX1_placeOfWay 46 = .ok (.if_icmp .eq 21, 3) := by decide +kernel
theorem dX1_placeOfWay_49 : decode cX1_placeOfWay 49 = .ok (.aload_n 0, 1) := by decide +kernel
theorem dX1_placeOfWay_50 : decode cX1_placeOfWay 50 = .ok (.aload_n 1, 1) := by decide +kernel
theorem dX1_placeOfWay_51 : decode cX1_placeOfWay 51 = .ok (.aload_n 2, 1) := by decide +kernel
theorem dX1_placeOfWay_52 : decode cX1_placeOfWay 52 = .ok (.iload 6, 2) := by decide +kernel
theorem dX1_placeOfWay_54 : decode cX1_placeOfWay 54 = .ok (.iload 4, 2) := by decide +kernel
theorem dX1_placeOfWay_56 : decode cX1_placeOfWay 56 = .ok (.invokevirtual 128, 3) := by decide +kernel
theorem dX1_placeOfWay_59 : decode cX1_placeOfWay 59 = .ok (.istore 6, 2) := by decide +kernel
theorem dX1_placeOfWay_61 : decode cX1_placeOfWay 61 = .ok (.iinc 7 1, 3) := by decide +kernel
theorem dX1_placeOfWay_64 : decode cX1_placeOfWay 64 = .ok (.goto (-29), 3) := by decide +kernel
theorem dX1_placeOfWay_67 : decode cX1_placeOfWay 67 = .ok (.iload 6, 2) := by decide +kernel
theorem dX1_placeOfWay_69 : decode cX1_placeOfWay 69 = .ok (.ireturn, 1) := by decide +kernel
theorem dX1_joinCheapest_0 : decode cX1_joinCheapest 0 = .ok (.bipush (-6), 2) := by decide +kernel
theorem dX1_joinCheapest_2 : decode cX1_joinCheapest 2 = .ok (.istore_n 2, 1) := by decide +kernel
theorem dX1_joinCheapest_3 : decode cX1_joinCheapest 3 = .ok (.bipush (-6), 2) := by decide +kernel
theorem dX1_joinCheapest_5 : decode cX1_joinCheapest 5 = .ok (.istore_n 3, 1) := by decide +kernel
theorem dX1_joinCheapest_6 : decode cX1_joinCheapest 6 = .ok (.ldc 131, 2) := by decide +kernel
theorem dX1_joinCheapest_8 : decode cX1_joinCheapest 8 = .ok (.istore 4, 2) := by decide +kernel
theorem dX1_joinCheapest_10 : decode cX1_joinCheapest 10 = .ok (.iconst 0, 1) := by decide +kernel
theorem dX1_joinCheapest_11 : decode cX1_joinCheapest 11 = .ok (.istore 5, 2) := by decide +kernel
theorem dX1_joinCheapest_13 : decode cX1_joinCheapest 13 = .ok (.iload 5, 2) := by decide +kernel
theorem dX1_joinCheapest_15 : decode cX1_joinCheapest 15 = .ok (.aload_n 1, 1) := by decide +kernel
theorem dX1_joinCheapest_16 : decode cX1_joinCheapest 16 = .ok (.getfield 42, 3) := by decide +kernel
theorem dX1_joinCheapest_19 : decode cX1_joinCheapest 19 = .ok (.if_icmp .ge 93, 3) := by decide +kernel
theorem dX1_joinCheapest_22 : decode cX1_joinCheapest 22 = .ok (.iconst 0, 1) := by decide +kernel
theorem dX1_joinCheapest_23 : decode cX1_joinCheapest 23 = .ok (.istore 6, 2) := by decide +kernel
theorem dX1_joinCheapest_25 : decode cX1_joinCheapest 25 = .ok (.iload 6, 2) := by decide +kernel
theorem dX1_joinCheapest_27 : decode cX1_joinCheapest 27 = .ok (.aload_n 1, 1) := by decide +kernel
theorem dX1_joinCheapest_28 : decode cX1_joinCheapest 28 = .ok (.getfield 42, 3) := by decide +kernel
theorem dX1_joinCheapest_31 : decode cX1_joinCheapest 31 = .ok (.if_icmp .ge 75, 3) := by decide +kernel
theorem dX1_joinCheapest_34 : decode cX1_joinCheapest 34 = .ok (.aload_n 0, 1) := by decide +kernel
theorem dX1_joinCheapest_35 : decode cX1_joinCheapest 35 = .ok (.aload_n 1, 1) := by decide +kernel
theorem dX1_joinCheapest_36 : decode cX1_joinCheapest 36 = .ok (.getfield 47, 3) := by decide +kernel
theorem dX1_joinCheapest_39 : decode cX1_joinCheapest 39 = .ok (.iload 5, 2) := by decide +kernel
theorem dX1_joinCheapest_41 : decode cX1_joinCheapest 41 = .ok (.invokevirtual 50, 3) := by decide +kernel
theorem dX1_joinCheapest_44 : decode cX1_joinCheapest 44 = .ok (.iload 6, 2) := by decide +kernel
theorem dX1_joinCheapest_46 : decode cX1_joinCheapest 46 = .ok (.invokevirtual 125, 3) := by decide +kernel
theorem dX1_joinCheapest_49 : decode cX1_joinCheapest 49 = .ok (.istore 7, 2) := by decide +kernel
theorem dX1_joinCheapest_51 : decode cX1_joinCheapest 51 = .ok (.aload_n 0, 1) := by decide +kernel
theorem dX1_joinCheapest_52 : decode cX1_joinCheapest 52 = .ok (.getfield 23, 3) := by decide +kernel
theorem dX1_joinCheapest_55 : decode cX1_joinCheapest 55 = .ok (.iload 5, 2) := by decide +kernel
theorem dX1_joinCheapest_57 : decode cX1_joinCheapest 57 = .ok (.invokevirtual 50, 3) := by decide +kernel
theorem dX1_joinCheapest_60 : decode cX1_joinCheapest 60 = .ok (.iconst 1, 1) := by decide +kernel
theorem dX1_joinCheapest_61 : decode cX1_joinCheapest 61 = .ok (.if_icmp .ne 39, 3) := by decide +kernel
theorem dX1_joinCheapest_64 : decode cX1_joinCheapest 64 = .ok (.aload_n 0, 1) := by decide +kernel
theorem dX1_joinCheapest_65 : decode cX1_joinCheapest 65 = .ok (.getfield 23, 3) := by decide +kernel
theorem dX1_joinCheapest_68 : decode cX1_joinCheapest 68 = .ok (.iload 6, 2) := by decide +kernel
theorem dX1_joinCheapest_70 : decode cX1_joinCheapest 70 = .ok (.invokevirtual 50, 3) := by decide +kernel
theorem dX1_joinCheapest_73 : decode cX1_joinCheapest 73 = .ok (.ifCond .ne 27, 3) := by decide +kernel
theorem dX1_joinCheapest_76 : decode cX1_joinCheapest 76 = .ok (.iload 7, 2) := by decide +kernel
theorem dX1_joinCheapest_78 : decode cX1_joinCheapest 78 = .ok (.bipush (-6), 2) := by decide +kernel
theorem dX1_joinCheapest_80 : decode cX1_joinCheapest 80 = .ok (.if_icmp .eq 20, 3) := by decide +kernel
theorem dX1_joinCheapest_83 : decode cX1_joinCheapest 83 = .ok (.iload 7, 2) := by decide +kernel
theorem dX1_joinCheapest_85 : decode cX1_joinCheapest 85 = .ok (.iload 4, 2) := by decide +kernel
theorem dX1_joinCheapest_87 : decode cX1_joinCheapest 87 = .ok (.if_icmp .ge 13, 3) := by decide +kernel
theorem dX1_joinCheapest_90 : decode cX1_joinCheapest 90 = .ok (.iload 5, 2) := by decide +kernel
theorem dX1_joinCheapest_92 : decode cX1_joinCheapest 92 = .ok (.istore_n 2, 1) := by decide +kernel
theorem dX1_joinCheapest_93 : decode cX1_joinCheapest 93 = .ok (.iload 6, 2) := by decide +kernel
theorem dX1_joinCheapest_95 : decode cX1_joinCheapest 95 = .ok (.istore_n 3, 1) := by decide +kernel
theorem dX1_joinCheapest_96 : decode cX1_joinCheapest 96 = .ok (.iload 7, 2) := by decide +kernel
theorem dX1_joinCheapest_98 : decode cX1_joinCheapest 98 = .ok (.istore 4, 2) := by decide +kernel
theorem dX1_joinCheapest_100 : decode cX1_joinCheapest 100 = .ok (.iinc 6 1, 3) := by decide +kernel
theorem dX1_joinCheapest_103 : decode cX1_joinCheapest 103 = .ok (.goto (-78), 3) := by decide +kernel
theorem dX1_joinCheapest_106 : decode cX1_joinCheapest 106 = .ok (.iinc 5 1, 3) := by decide +kernel
theorem dX1_joinCheapest_109 : decode cX1_joinCheapest 109 = .ok (.goto (-96), 3) := by decide +kernel
theorem dX1_joinCheapest_112 : decode cX1_joinCheapest 112 = .ok (.iload_n 2, 1) := by decide +kernel
theorem dX1_joinCheapest_113 : decode cX1_joinCheapest 113 = .ok (.bipush (-6), 2) := by decide +kernel
theorem dX1_joinCheapest_115 : decode cX1_joinCheapest 115 = .ok (.if_icmp .eq 73, 3) := by decide +kernel
theorem dX1_joinCheapest_118 : decode cX1_joinCheapest 118 = .ok (.aload_n 0, 1) := by decide +kernel
theorem dX1_joinCheapest_119 : decode cX1_joinCheapest 119 = .ok (.getfield 23, 3) := by decide +kernel
theorem dX1_joinCheapest_122 : decode cX1_joinCheapest 122 = .ok (.iload_n 3, 1) := by decide +kernel
theorem dX1_joinCheapest_123 : decode cX1_joinCheapest 123 = .ok (.iconst 1, 1) := by decide +kernel
theorem dX1_joinCheapest_124 : decode cX1_joinCheapest 124 = .ok (.invokevirtual 61, 3) := by decide +kernel
theorem dX1_joinCheapest_127 : decode cX1_joinCheapest 127 = .ok (.aload_n 0, 1) := by decide +kernel
theorem dX1_joinCheapest_128 : decode cX1_joinCheapest 128 = .ok (.dup, 1) := by decide +kernel
theorem dX1_joinCheapest_129 : decode cX1_joinCheapest 129 = .ok (.getfield 33, 3) := by decide +kernel
theorem dX1_joinCheapest_132 : decode cX1_joinCheapest 132 = .ok (.iconst 1, 1) := by decide +kernel
theorem dX1_joinCheapest_133 : decode cX1_joinCheapest 133 = .ok (.iadd, 1) := by decide +kernel
theorem dX1_joinCheapest_134 : decode cX1_joinCheapest 134 = .ok (.putfield 33, 3) := by decide +kernel
theorem dX1_joinCheapest_137 : decode cX1_joinCheapest 137 = .ok (.aload_n 0, 1) := by decide +kernel
theorem dX1_joinCheapest_138 : decode cX1_joinCheapest 138 = .ok (.dup, 1) := by decide +kernel
theorem dX1_joinCheapest_139 : decode cX1_joinCheapest 139 = .ok (.getfield 36, 3) := by decide +kernel
theorem dX1_joinCheapest_142 : decode cX1_joinCheapest 142 = .ok (.iload 4, 2) := by decide +kernel
theorem dX1_joinCheapest_144 : decode cX1_joinCheapest 144 = .ok (.iadd, 1) := by decide +kernel
theorem dX1_joinCheapest_145 : decode cX1_joinCheapest 145 = .ok (.putfield 36, 3) := by decide +kernel
theorem dX1_joinCheapest_148 : decode cX1_joinCheapest 148 = .ok (.aload_n 0, 1) := by decide +kernel
theorem dX1_joinCheapest_149 : decode cX1_joinCheapest 149 = .ok (.getfield 26, 3) := by decide +kernel
theorem dX1_joinCheapest_152 : decode cX1_joinCheapest 152 = .ok (.iconst 2, 1) := by decide +kernel
theorem dX1_joinCheapest_153 : decode cX1_joinCheapest 153 = .ok (.aload_n 0, 1) := by decide +kernel
theorem dX1_joinCheapest_154 : decode cX1_joinCheapest 154 = .ok (.getfield 39, 3) := by decide +kernel
theorem dX1_joinCheapest_157 : decode cX1_joinCheapest 157 = .ok (.imul, 1) := by decide +kernel
theorem dX1_joinCheapest_158 : decode cX1_joinCheapest 158 = .ok (.iload_n 2, 1) := by decide +kernel
theorem dX1_joinCheapest_159 : decode cX1_joinCheapest 159 = .ok (.invokevirtual 61, 3) := by decide +kernel
theorem dX1_joinCheapest_162 : decode cX1_joinCheapest 162 = .ok (.aload_n 0, 1) := by decide +kernel
theorem dX1_joinCheapest_163 : decode cX1_joinCheapest 163 = .ok (.getfield 26, 3) := by decide +kernel
theorem dX1_joinCheapest_166 : decode cX1_joinCheapest 166 = .ok (.iconst 2, 1) := by decide +kernel
theorem dX1_joinCheapest_167 : decode cX1_joinCheapest 167 = .ok (.aload_n 0, 1) := by decide +kernel
theorem dX1_joinCheapest_168 : decode cX1_joinCheapest 168 = .ok (.getfield 39, 3) := by decide +kernel
theorem dX1_joinCheapest_171 : decode cX1_joinCheapest 171 = .ok (.imul, 1) := by decide +kernel
theorem dX1_joinCheapest_172 : decode cX1_joinCheapest 172 = .ok (.iconst 1, 1) := by decide +kernel
theorem dX1_joinCheapest_173 : decode cX1_joinCheapest 173 = .ok (.iadd, 1) := by decide +kernel
theorem dX1_joinCheapest_174 : decode cX1_joinCheapest 174 = .ok (.iload_n 3, 1) := by decide +kernel
theorem dX1_joinCheapest_175 : decode cX1_joinCheapest 175 = .ok (.invokevirtual 61, 3) := by decide +kernel
theorem dX1_joinCheapest_178 : decode cX1_joinCheapest 178 = .ok (.aload_n 0, 1) := by decide +kernel
theorem dX1_joinCheapest_179 : decode cX1_joinCheapest 179 = .ok (.dup, 1) := by decide +kernel
theorem dX1_joinCheapest_180 : decode cX1_joinCheapest 180 = .ok (.getfield 39, 3) := by decide +kernel
theorem dX1_joinCheapest_183 : decode cX1_joinCheapest 183 = .ok (.iconst 1, 1) := by decide +kernel
theorem dX1_joinCheapest_184 : decode cX1_joinCheapest 184 = .ok (.iadd, 1) := by decide +kernel
theorem dX1_joinCheapest_185 : decode cX1_joinCheapest 185 = .ok (.putfield 39, 3) := by decide +kernel
theorem dX1_joinCheapest_188 : decode cX1_joinCheapest 188 = .ok (.return_, 1) := by decide +kernel
theorem dX1_layRoad_0 : decode cX1_layRoad 0 = .ok (.iload_n 3, 1) := by decide +kernel
theorem dX1_layRoad_1 : decode cX1_layRoad 1 = .ok (.istore 5, 2) := by decide +kernel
theorem dX1_layRoad_3 : decode cX1_layRoad 3 = .ok (.iconst 0, 1) := by decide +kernel
theorem dX1_layRoad_4 : decode cX1_layRoad 4 = .ok (.istore 6, 2) := by decide +kernel
theorem dX1_layRoad_6 : decode cX1_layRoad 6 = .ok (.iload 6, 2) := by decide +kernel
theorem dX1_layRoad_8 : decode cX1_layRoad 8 = .ok (.aload_n 1, 1) := by decide +kernel
theorem dX1_layRoad_9 : decode cX1_layRoad 9 = .ok (.getfield 73, 3) := by decide +kernel
theorem dX1_layRoad_12 : decode cX1_layRoad 12 = .ok (.if_icmp .ge 38, 3) := by decide +kernel
theorem dX1_layRoad_15 : decode cX1_layRoad 15 = .ok (.iload 5, 2) := by decide +kernel
theorem dX1_layRoad_17 : decode cX1_layRoad 17 = .ok (.bipush (-6), 2) := by decide +kernel
theorem dX1_layRoad_19 : decode cX1_layRoad 19 = .ok (.if_icmp .eq 31, 3) := by decide +kernel
theorem dX1_layRoad_22 : decode cX1_layRoad 22 = .ok (.aload_n 0, 1) := by decide +kernel
theorem dX1_layRoad_23 : decode cX1_layRoad 23 = .ok (.getfield 20, 3) := by decide +kernel
theorem dX1_layRoad_26 : decode cX1_layRoad 26 = .ok (.iload 5, 2) := by decide +kernel
theorem dX1_layRoad_28 : decode cX1_layRoad 28 = .ok (.iconst 1, 1) := by decide +kernel
theorem dX1_layRoad_29 : decode cX1_layRoad 29 = .ok (.invokevirtual 132, 3) := by decide +kernel
theorem dX1_layRoad_32 : decode cX1_layRoad 32 = .ok (.aload_n 0, 1) := by decide +kernel
theorem dX1_layRoad_33 : decode cX1_layRoad 33 = .ok (.aload_n 1, 1) := by decide +kernel
theorem dX1_layRoad_34 : decode cX1_layRoad 34 = .ok (.aload_n 2, 1) := by decide +kernel
theorem dX1_layRoad_35 : decode cX1_layRoad 35 = .ok (.iload 5, 2) := by decide +kernel
theorem dX1_layRoad_37 : decode cX1_layRoad 37 = .ok (.iload 4, 2) := by decide +kernel
theorem dX1_layRoad_39 : decode cX1_layRoad 39 = .ok (.invokevirtual 128, 3) := by decide +kernel
theorem dX1_layRoad_42 : decode cX1_layRoad 42 = .ok (.istore 5, 2) := by decide +kernel
theorem dX1_layRoad_44 : decode cX1_layRoad 44 = .ok (.iinc 6 1, 3) := by decide +kernel
theorem dX1_layRoad_47 : decode cX1_layRoad 47 = .ok (.goto (-41), 3) := by decide +kernel
theorem dX1_layRoad_50 : decode cX1_layRoad 50 = .ok (.return_, 1) := by decide +kernel
theorem dX1_endOfRoad_0 : decode cX1_endOfRoad 0 = .ok (.iload_n 1, 1) := by decide +kernel
theorem dX1_endOfRoad_1 : decode cX1_endOfRoad 1 = .ok (.iconst 2, 1) := by decide +kernel
theorem dX1_endOfRoad_2 : decode cX1_endOfRoad 2 = .ok (.aload_n 0, 1) := by decide +kernel
theorem dX1_endOfRoad_3 : decode cX1_endOfRoad 3 = .ok (.getfield 39, 3) := by decide +kernel
theorem dX1_endOfRoad_6 : decode cX1_endOfRoad 6 = .ok (.imul, 1) := by decide +kernel
theorem dX1_endOfRoad_7 : decode cX1_endOfRoad 7 = .ok (.if_icmp .ge 14, 3) := by decide +kernel
theorem dX1_endOfRoad_10 : decode cX1_endOfRoad 10 = .ok (.aload_n 0, 1) := by decide +kernel
theorem dX1_endOfRoad_11 : decode cX1_endOfRoad 11 = .ok (.getfield 26, 3) := by decide +kernel
theorem dX1_endOfRoad_14 : decode cX1_endOfRoad 14 = .ok (.iload_n 1, 1) := by decide +kernel
theorem dX1_endOfRoad_15 : decode cX1_endOfRoad 15 = .ok (.invokevirtual 50, 3) := by decide +kernel
theorem dX1_endOfRoad_18 : decode cX1_endOfRoad 18 = .ok (.goto 5, 3) := by decide +kernel
theorem dX1_endOfRoad_21 : decode cX1_endOfRoad 21 = .ok (.bipush (-6), 2) := by decide +kernel
theorem dX1_endOfRoad_23 : decode cX1_endOfRoad 23 = .ok (.ireturn, 1) := by decide +kernel
theorem dX2_init_0 : decode cX2_init 0 = .ok (.aload_n 0, 1) := by decide +kernel
theorem dX2_init_1 : decode cX2_init 1 = .ok (.invokespecial 3, 3) := by decide +kernel
theorem dX2_init_4 : decode cX2_init 4 = .ok (.aload_n 0, 1) := by decide +kernel
theorem dX2_init_5 : decode cX2_init 5 = .ok (.new 9, 3) := by decide +kernel
theorem dX2_init_8 : decode cX2_init 8 = .ok (.dup, 1) := by decide +kernel
theorem dX2_init_9 : decode cX2_init 9 = .ok (.sipush 576, 3) := by decide +kernel
theorem dX2_init_12 : decode cX2_init 12 = .ok (.invokespecial 11, 3) := by decide +kernel
theorem dX2_init_15 : decode cX2_init 15 = .ok (.putfield 14, 3) := by decide +kernel
theorem dX2_init_18 : decode cX2_init 18 = .ok (.aload_n 0, 1) := by decide +kernel
theorem dX2_init_19 : decode cX2_init 19 = .ok (.new 9, 3) := by decide +kernel
theorem dX2_init_22 : decode cX2_init 22 = .ok (.dup, 1) := by decide +kernel
theorem dX2_init_23 : decode cX2_init 23 = .ok (.sipush 576, 3) := by decide +kernel
theorem dX2_init_26 : decode cX2_init 26 = .ok (.invokespecial 11, 3) := by decide +kernel
theorem dX2_init_29 : decode cX2_init 29 = .ok (.putfield 20, 3) := by decide +kernel
theorem dX2_init_32 : decode cX2_init 32 = .ok (.aload_n 0, 1) := by decide +kernel
theorem dX2_init_33 : decode cX2_init 33 = .ok (.new 9, 3) := by decide +kernel
theorem dX2_init_36 : decode cX2_init 36 = .ok (.dup, 1) := by decide +kernel
theorem dX2_init_37 : decode cX2_init 37 = .ok (.sipush 576, 3) := by decide +kernel
theorem dX2_init_40 : decode cX2_init 40 = .ok (.invokespecial 11, 3) := by decide +kernel
theorem dX2_init_43 : decode cX2_init 43 = .ok (.putfield 23, 3) := by decide +kernel
theorem dX2_init_46 : decode cX2_init 46 = .ok (.aload_n 0, 1) := by decide +kernel
theorem dX2_init_47 : decode cX2_init 47 = .ok (.iconst 0, 1) := by decide +kernel
theorem dX2_init_48 : decode cX2_init 48 = .ok (.putfield 26, 3) := by decide +kernel
theorem dX2_init_51 : decode cX2_init 51 = .ok (.return_, 1) := by decide +kernel
theorem dX2_gather_0 : decode cX2_gather 0 = .ok (.aload_n 0, 1) := by decide +kernel
theorem dX2_gather_1 : decode cX2_gather 1 = .ok (.iconst 0, 1) := by decide +kernel
theorem dX2_gather_2 : decode cX2_gather 2 = .ok (.putfield 26, 3) := by decide +kernel
theorem dX2_gather_5 : decode cX2_gather 5 = .ok (.aload_n 0, 1) := by decide +kernel
theorem dX2_gather_6 : decode cX2_gather 6 = .ok (.getfield 14, 3) := by decide +kernel
theorem dX2_gather_9 : decode cX2_gather 9 = .ok (.bipush (-6), 2) := by decide +kernel
theorem dX2_gather_11 : decode cX2_gather 11 = .ok (.invokevirtual 30, 3) := by decide +kernel
theorem dX2_gather_14 : decode cX2_gather 14 = .ok (.iconst 0, 1) := by decide +kernel
theorem dX2_gather_15 : decode cX2_gather 15 = .ok (.istore_n 3, 1) := by decide +kernel
theorem dX2_gather_16 : decode cX2_gather 16 = .ok (.iload_n 3, 1) := by decide +kernel
theorem dX2_gather_17 : decode cX2_gather 17 = .ok (.aload_n 1, 1) := by decide +kernel
theorem dX2_gather_18 : decode cX2_gather 18 = .ok (.getfield 33, 3) := by decide +kernel
theorem dX2_gather_21 : decode cX2_gather 21 = .ok (.if_icmp .ge 62, 3) := by decide +kernel
theorem dX2_gather_24 : decode cX2_gather 24 = .ok (.aload_n 2, 1) := by decide +kernel
theorem dX2_gather_25 : decode cX2_gather 25 = .ok (.getfield 38, 3) := by decide +kernel
theorem dX2_gather_28 : decode cX2_gather 28 = .ok (.iload_n 3, 1) := by decide +kernel
theorem dX2_gather_29 : decode cX2_gather 29 = .ok (.invokevirtual 43, 3) := by decide +kernel
theorem dX2_gather_32 : decode cX2_gather 32 = .ok (.iconst 2, 1) := by decide +kernel
theorem dX2_gather_33 : decode cX2_gather 33 = .ok (.if_icmp .ne 44, 3) := by decide +kernel
theorem dX2_gather_36 : decode cX2_gather 36 = .ok (.aload_n 0, 1) := by decide +kernel
theorem dX2_gather_37 : decode cX2_gather 37 = .ok (.getfield 14, 3) := by decide +kernel
theorem dX2_gather_40 : decode cX2_gather 40 = .ok (.iload_n 3, 1) := by decide +kernel
theorem dX2_gather_41 : decode cX2_gather 41 = .ok (.invokevirtual 43, 3) := by decide +kernel
theorem dX2_gather_44 : decode cX2_gather 44 = .ok (.bipush (-6), 2) := by decide +kernel
theorem dX2_gather_46 : decode cX2_gather 46 = .ok (.if_icmp .ne 31, 3) := by decide +kernel
theorem dX2_gather_49 : decode cX2_gather 49 = .ok (.aload_n 0, 1) := by decide +kernel
theorem dX2_gather_50 : decode cX2_gather 50 = .ok (.getfield 20, 3) := by decide +kernel
theorem dX2_gather_53 : decode cX2_gather 53 = .ok (.aload_n 0, 1) := by decide +kernel
theorem dX2_gather_54 : decode cX2_gather 54 = .ok (.getfield 26, 3) := by decide +kernel
theorem dX2_gather_57 : decode cX2_gather 57 = .ok (.aload_n 0, 1) := by decide +kernel
theorem dX2_gather_58 : decode cX2_gather 58 = .ok (.aload_n 1, 1) := by decide +kernel
theorem dX2_gather_59 : decode cX2_gather 59 = .ok (.aload_n 2, 1) := by decide +kernel
theorem dX2_gather_60 : decode cX2_gather 60 = .ok (.iload_n 3, 1) := by decide +kernel
theorem dX2_gather_61 : decode cX2_gather 61 = .ok (.invokevirtual 47, 3) := by decide +kernel
theorem dX2_gather_64 : decode cX2_gather 64 = .ok (.invokevirtual 51, 3) := by decide +kernel
theorem dX2_gather_67 : decode cX2_gather 67 = .ok (.aload_n 0, 1) := by decide +kernel
theorem dX2_gather_68 : decode cX2_gather 68 = .ok (.dup, 1) := by decide +kernel
theorem dX2_gather_69 : decode cX2_gather 69 = .ok (.getfield 26, 3) := by decide +kernel
theorem dX2_gather_72 : decode cX2_gather 72 = .ok (.iconst 1, 1) := by decide +kernel
theorem dX2_gather_73 : decode cX2_gather 73 = .ok (.iadd, 1) := by decide +kernel
theorem dX2_gather_74 : decode cX2_gather 74 = .ok (.putfield 26, 3) := by decide +kernel
theorem dX2_gather_77 : decode cX2_gather 77 = .ok (.iinc 3 1, 3) := by decide +kernel
theorem dX2_gather_80 : decode cX2_gather 80 = .ok (.goto (-64), 3) := by decide +kernel
theorem dX2_gather_83 : decode cX2_gather 83 = .ok (.return_, 1) := by decide +kernel
theorem dX2_spread_0 : decode cX2_spread 0 = .ok (.aload_n 0, 1) := by decide +kernel
theorem dX2_spread_1 : decode cX2_spread 1 = .ok (.getfield 14, 3) := by decide +kernel
theorem dX2_spread_4 : decode cX2_spread 4 = .ok (.iload_n 3, 1) := by decide +kernel
theorem dX2_spread_5 : decode cX2_spread 5 = .ok (.aload_n 0, 1) := by decide +kernel
theorem dX2_spread_6 : decode cX2_spread 6 = .ok (.getfield 26, 3) := by decide +kernel
theorem dX2_spread_9 : decode cX2_spread 9 = .ok (.invokevirtual 51, 3) := by decide +kernel
theorem dX2_spread_12 : decode cX2_spread 12 = .ok (.aload_n 0, 1) := by decide +kernel
theorem dX2_spread_13 : decode cX2_spread 13 = .ok (.getfield 23, 3) := by decide +kernel
theorem dX2_spread_16 : decode cX2_spread 16 = .ok (.iconst 0, 1) := by decide +kernel
theorem dX2_spread_17 : decode cX2_spread 17 = .ok (.iload_n 3, 1) := by decide +kernel
theorem dX2_spread_18 : decode cX2_spread 18 = .ok (.invokevirtual 51, 3) := by decide +kernel
theorem dX2_spread_21 : decode cX2_spread 21 = .ok (.iconst 1, 1) := by decide +kernel
theorem dX2_spread_22 : decode cX2_spread 22 = .ok (.istore 4, 2) := by decide +kernel
theorem dX2_spread_24 : decode cX2_spread 24 = .ok (.iconst 0, 1) := by decide +kernel
theorem dX2_spread_25 : decode cX2_spread 25 = .ok (.istore 5, 2) := by decide +kernel
theorem dX2_spread_27 : decode cX2_spread 27 = .ok (.iload 5, 2) := by decide +kernel
theorem dX2_spread_29 : decode cX2_spread 29 = .ok (.iload 4, 2) := by decide +kernel
theorem dX2_spread_31 : decode cX2_spread 31 = .ok (.if_icmp .ge 134, 3) := by decide +kernel
theorem dX2_spread_34 : decode cX2_spread 34 = .ok (.iload 5, 2) := by decide +kernel
theorem dX2_spread_36 : decode cX2_spread 36 = .ok (.sipush 576, 3) := by decide +kernel
theorem dX2_spread_39 : decode cX2_spread 39 = .ok (.if_icmp .ge 126, 3) := by decide +kernel
theorem dX2_spread_42 : decode cX2_spread 42 = .ok (.aload_n 0, 1) := by decide +kernel
theorem dX2_spread_43 : decode cX2_spread 43 = .ok (.getfield 23, 3) := by decide +kernel
theorem dX2_spread_46 : decode cX2_spread 46 = .ok (.iload 5, 2) := by decide +kernel
theorem dX2_spread_48 : decode cX2_spread 48 = .ok (.invokevirtual 43, 3) := by decide +kernel
theorem dX2_spread_51 : decode cX2_spread 51 = .ok (.istore 6, 2) := by decide +kernel
theorem dX2_spread_53 : decode cX2_spread 53 = .ok (.iconst 0, 1) := by decide +kernel
theorem dX2_spread_54 : decode cX2_spread 54 = .ok (.istore 7, 2) := by decide +kernel
theorem dX2_spread_56 : decode cX2_spread 56 = .ok (.iload 7, 2) := by decide +kernel
theorem dX2_spread_58 : decode cX2_spread 58 = .ok (.iconst 4, 1) := by decide +kernel
theorem dX2_spread_59 : decode cX2_spread 59 = .ok (.if_icmp .ge 100, 3) := by decide +kernel
theorem dX2_spread_62 : decode cX2_spread 62 = .ok (.aload_n 1, 1) := by decide +kernel
theorem dX2_spread_63 : decode cX2_spread 63 = .ok (.iload 6, 2) := by decide +kernel
theorem dX2_spread_65 : decode cX2_spread 65 = .ok (.iload 7, 2) := by decide +kernel
theorem dX2_spread_67 : decode cX2_spread 67 = .ok (.invokevirtual 55, 3) := by decide +kernel
theorem dX2_spread_70 : decode cX2_spread 70 = .ok (.istore 8, 2) := by decide +kernel
theorem dX2_spread_72 : decode cX2_spread 72 = .ok (.iload 8, 2) := by decide +kernel
theorem dX2_spread_74 : decode cX2_spread 74 = .ok (.bipush (-6), 2) := by decide +kernel
theorem dX2_spread_76 : decode cX2_spread 76 = .ok (.if_icmp .eq 77, 3) := by decide +kernel
theorem dX2_spread_79 : decode cX2_spread 79 = .ok (.aload_n 0, 1) := by decide +kernel
theorem dX2_spread_80 : decode cX2_spread 80 = .ok (.getfield 14, 3) := by decide +kernel
theorem dX2_spread_83 : decode cX2_spread 83 = .ok (.iload 8, 2) := by decide +kernel
theorem dX2_spread_85 : decode cX2_spread 85 = .ok (.invokevirtual 43, 3) := by decide +kernel
theorem dX2_spread_88 : decode cX2_spread 88 = .ok (.bipush (-6), 2) := by decide +kernel
theorem dX2_spread_90 : decode cX2_spread 90 = .ok (.if_icmp .ne 63, 3) := by decide +kernel
theorem dX2_spread_93 : decode cX2_spread 93 = .ok (.aload_n 2, 1) := by decide +kernel
theorem dX2_spread_94 : decode cX2_spread 94 = .ok (.getfield 38, 3) := by decide +kernel
theorem dX2_spread_97 : decode cX2_spread 97 = .ok (.iload 8, 2) := by decide +kernel
theorem dX2_spread_99 : decode cX2_spread 99 = .ok (.invokevirtual 43, 3) := by decide +kernel
theorem dX2_spread_102 : decode cX2_spread 102 = .ok (.iconst 2, 1) := by decide +kernel
theorem dX2_spread_103 : decode cX2_spread 103 = .ok (.if_icmp .ne 50, 3) := by decide +kernel
theorem dX2_spread_106 : decode cX2_spread 106 = .ok (.aload_n 2, 1) := by decide +kernel
theorem dX2_spread_107 : decode cX2_spread 107 = .ok (.getfield 59, 3) := by decide +kernel
theorem dX2_spread_110 : decode cX2_spread 110 = .ok (.iload 8, 2) := by decide +kernel
theorem dX2_spread_112 : decode cX2_spread 112 = .ok (.invokevirtual 43, 3) := by decide +kernel
theorem dX2_spread_115 : decode cX2_spread 115 = .ok (.aload_n 2, 1) := by decide +kernel
theorem dX2_spread_116 : decode cX2_spread 116 = .ok (.getfield 59, 3) := by decide +kernel
theorem dX2_spread_119 : decode cX2_spread 119 = .ok (.iload_n 3, 1) := by decide +kernel
theorem dX2_spread_120 : decode cX2_spread 120 = .ok (.invokevirtual 43, 3) := by decide +kernel
theorem dX2_spread_123 : decode cX2_spread 123 = .ok (.if_icmp .ne 30, 3) := by decide +kernel
theorem dX2_spread_126 : decode cX2_spread 126 = .ok (.aload_n 0, 1) := by decide +kernel
theorem dX2_spread_127 : decode cX2_spread 127 = .ok (.getfield 14, 3) := by decide +kernel
theorem dX2_spread_130 : decode cX2_spread 130 = .ok (.iload 8, 2) := by decide +kernel
theorem dX2_spread_132 : decode cX2_spread 132 = .ok (.aload_n 0, 1) := by decide +kernel
theorem dX2_spread_133 : decode cX2_spread 133 = .ok (.getfield 26, 3) := by decide +kernel
theorem dX2_spread_136 : decode cX2_spread 136 = .ok (.invokevirtual 51, 3) := by decide +kernel
theorem dX2_spread_139 : decode cX2_spread 139 = .ok (.aload_n 0, 1) := by decide +kernel
theorem dX2_spread_140 : decode cX2_spread 140 = .ok (.getfield 23, 3) := by decide +kernel
theorem dX2_spread_143 : decode cX2_spread 143 = .ok (.iload 4, 2) := by decide +kernel
theorem dX2_spread_145 : decode cX2_spread 145 = .ok (.iload 8, 2) := by decide +kernel
theorem dX2_spread_147 : decode cX2_spread 147 = .ok (.invokevirtual 51, 3) := by decide +kernel
theorem dX2_spread_150 : decode cX2_spread 150 = .ok (.iinc 4 1, 3) := by decide +kernel
theorem dX2_spread_153 : decode cX2_spread 153 = .ok (.iinc 7 1, 3) := by decide +kernel
theorem dX2_spread_156 : decode cX2_spread 156 = .ok (.goto (-100), 3) := by decide +kernel
theorem dX2_spread_159 : decode cX2_spread 159 = .ok (.iinc 5 1, 3) := by decide +kernel
theorem dX2_spread_162 : decode cX2_spread 162 = .ok (.goto (-135), 3) := by decide +kernel
theorem dX2_spread_165 : decode cX2_spread 165 = .ok (.iload 4, 2) := by decide +kernel
theorem dX2_spread_167 : decode cX2_spread 167 = .ok (.ireturn, 1) := by decide +kernel
theorem dX2_placesAt_0 : decode cX2_placesAt 0 = .ok (.aload_n 0, 1) := by decide +kernel
theorem dX2_placesAt_1 : decode cX2_placesAt 1 = .ok (.getfield 14, 3) := by decide +kernel
theorem dX2_placesAt_4 : decode cX2_placesAt 4 = .ok (.iload_n 1, 1) := by decide +kernel
theorem dX2_placesAt_5 : decode cX2_placesAt 5 = .ok (.invokevirtual 43, 3) := by decide +kernel
theorem dX2_placesAt_8 : decode cX2_placesAt 8 = .ok (.bipush (-6), 2) := by decide +kernel
theorem dX2_placesAt_10 : decode cX2_placesAt 10 = .ok (.if_icmp .ne 7, 3) := by decide +kernel
theorem dX2_placesAt_13 : decode cX2_placesAt 13 = .ok (.iconst 0, 1) := by decide +kernel
theorem dX2_placesAt_14 : decode cX2_placesAt 14 = .ok (.goto 18, 3) := by decide +kernel
theorem dX2_placesAt_17 : decode cX2_placesAt 17 = .ok (.aload_n 0, 1) := by decide +kernel
theorem dX2_placesAt_18 : decode cX2_placesAt 18 = .ok (.getfield 20, 3) := by decide +kernel
theorem dX2_placesAt_21 : decode cX2_placesAt 21 = .ok (.aload_n 0, 1) := by decide +kernel
theorem dX2_placesAt_22 : decode cX2_placesAt 22 = .ok (.getfield 14, 3) := by decide +kernel
theorem dX2_placesAt_25 : decode cX2_placesAt 25 = .ok (.iload_n 1, 1) := by decide +kernel
theorem dX2_placesAt_26 : decode cX2_placesAt 26 = .ok (.invokevirtual 43, 3) := by decide +kernel
theorem dX2_placesAt_29 : decode cX2_placesAt 29 = .ok (.invokevirtual 43, 3) := by decide +kernel
theorem dX2_placesAt_32 : decode cX2_placesAt 32 = .ok (.ireturn, 1) := by decide +kernel
theorem dX3_init_0 : decode cX3_init 0 = .ok (.aload_n 0, 1) := by decide +kernel
theorem dX3_init_1 : decode cX3_init 1 = .ok (.invokespecial 3, 3) := by decide +kernel
theorem dX3_init_4 : decode cX3_init 4 = .ok (.aload_n 0, 1) := by decide +kernel
theorem dX3_init_5 : decode cX3_init 5 = .ok (.iload_n 1, 1) := by decide +kernel
theorem dX3_init_6 : decode cX3_init 6 = .ok (.iconst 0, 1) := by decide +kernel
theorem dX3_init_7 : decode cX3_init 7 = .ok (.invokestatic 9, 3) := by decide +kernel
theorem dX3_init_10 : decode cX3_init 10 = .ok (.newarray .int, 2) := by decide +kernel
theorem dX3_init_12 : decode cX3_init 12 = .ok (.putfield 15, 3) := by decide +kernel
theorem dX3_init_15 : decode cX3_init 15 = .ok (.return_, 1) := by decide +kernel
theorem dX3_at_0 : decode cX3_at 0 = .ok (.iload_n 1, 1) := by decide +kernel
theorem dX3_at_1 : decode cX3_at 1 = .ok (.ifCond .lt 21, 3) := by decide +kernel
theorem dX3_at_4 : decode cX3_at 4 = .ok (.iload_n 1, 1) := by decide +kernel
theorem dX3_at_5 : decode cX3_at 5 = .ok (.aload_n 0, 1) := by decide +kernel
theorem dX3_at_6 : decode cX3_at 6 = .ok (.getfield 15, 3) := by decide +kernel
theorem dX3_at_9 : decode cX3_at 9 = .ok (.arraylength, 1) := by decide +kernel
theorem dX3_at_10 : decode cX3_at 10 = .ok (.if_icmp .ge 12, 3) := by decide +kernel
theorem dX3_at_13 : decode cX3_at 13 = .ok (.aload_n 0, 1) := by decide +kernel
theorem dX3_at_14 : decode cX3_at 14 = .ok (.getfield 15, 3) := by decide +kernel
theorem dX3_at_17 : decode cX3_at 17 = .ok (.iload_n 1, 1) := by decide +kernel
theorem dX3_at_18 : decode cX3_at 18 = .ok (.iaload, 1) := by decide +kernel
theorem dX3_at_19 : decode cX3_at 19 = .ok (.goto 5, 3) := by decide +kernel
theorem dX3_at_22 : decode cX3_at 22 = .ok (.bipush (-6), 2) := by decide +kernel
theorem dX3_at_24 : decode cX3_at 24 = .ok (.ireturn, 1) := by decide +kernel
theorem dX3_put_0 : decode cX3_put 0 = .ok (.iload_n 1, 1) := by decide +kernel
theorem dX3_put_1 : decode cX3_put 1 = .ok (.ifCond .lt 19, 3) := by decide +kernel
theorem dX3_put_4 : decode cX3_put 4 = .ok (.iload_n 1, 1) := by decide +kernel
theorem dX3_put_5 : decode cX3_put 5 = .ok (.aload_n 0, 1) := by decide +kernel
theorem dX3_put_6 : decode cX3_put 6 = .ok (.getfield 15, 3) := by decide +kernel
theorem dX3_put_9 : decode cX3_put 9 = .ok (.arraylength, 1) := by decide +kernel
theorem dX3_put_10 : decode cX3_put 10 = .ok (.if_icmp .ge 10, 3) := by decide +kernel
theorem dX3_put_13 : decode cX3_put 13 = .ok (.aload_n 0, 1) := by decide +kernel
theorem dX3_put_14 : decode cX3_put 14 = .ok (.getfield 15, 3) := by decide +kernel
theorem dX3_put_17 : decode cX3_put 17 = .ok (.iload_n 1, 1) := by decide +kernel
theorem dX3_put_18 : decode cX3_put 18 = .ok (.iload_n 2, 1) := by decide +kernel
theorem dX3_put_19 : decode cX3_put 19 = .ok (.iastore, 1) := by decide +kernel
theorem dX3_put_20 : decode cX3_put 20 = .ok (.return_, 1) := by decide +kernel
theorem dX3_add_0 : decode cX3_add 0 = .ok (.aload_n 0, 1) := by decide +kernel
theorem dX3_add_1 : decode cX3_add 1 = .ok (.iload_n 1, 1) := by decide +kernel
theorem dX3_add_2 : decode cX3_add 2 = .ok (.aload_n 0, 1) := by decide +kernel
theorem dX3_add_3 : decode cX3_add 3 = .ok (.iload_n 1, 1) := by decide +kernel
theorem dX3_add_4 : decode cX3_add 4 = .ok (.invokevirtual 21, 3) := by decide +kernel
theorem dX3_add_7 : decode cX3_add 7 = .ok (.iload_n 2, 1) := by decide +kernel
theorem dX3_add_8 : decode cX3_add 8 = .ok (.iadd, 1) := by decide +kernel
theorem dX3_add_9 : decode cX3_add 9 = .ok (.invokevirtual 25, 3) := by decide +kernel
theorem dX3_add_12 : decode cX3_add 12 = .ok (.return_, 1) := by decide +kernel
theorem dX3_fill_0 : decode cX3_fill 0 = .ok (.aload_n 0, 1) := by decide +kernel
theorem dX3_fill_1 : decode cX3_fill 1 = .ok (.getfield 15, 3) := by decide +kernel
theorem dX3_fill_4 : decode cX3_fill 4 = .ok (.iload_n 1, 1) := by decide +kernel
theorem dX3_fill_5 : decode cX3_fill 5 = .ok (.invokestatic 29, 3) := by decide +kernel
theorem dX3_fill_8 : decode cX3_fill 8 = .ok (.return_, 1) := by decide +kernel
theorem dX4_init_0 : decode cX4_init 0 = .ok (.aload_n 0, 1) := by decide +kernel
theorem dX4_init_1 : decode cX4_init 1 = .ok (.invokespecial 3, 3) := by decide +kernel
theorem dX4_init_4 : decode cX4_init 4 = .ok (.aload_n 0, 1) := by decide +kernel
theorem dX4_init_5 : decode cX4_init 5 = .ok (.new 9, 3) := by decide +kernel
theorem dX4_init_8 : decode cX4_init 8 = .ok (.dup, 1) := by decide +kernel
theorem dX4_init_9 : decode cX4_init 9 = .ok (.sipush 576, 3) := by decide +kernel
theorem dX4_init_12 : decode cX4_init 12 = .ok (.invokespecial 11, 3) := by decide +kernel
theorem dX4_init_15 : decode cX4_init 15 = .ok (.putfield 14, 3) := by decide +kernel
theorem dX4_init_18 : decode cX4_init 18 = .ok (.aload_n 0, 1) := by decide +kernel
theorem dX4_init_19 : decode cX4_init 19 = .ok (.new 9, 3) := by decide +kernel
theorem dX4_init_22 : decode cX4_init 22 = .ok (.dup, 1) := by decide +kernel
theorem dX4_init_23 : decode cX4_init 23 = .ok (.bipush 6, 2) := by decide +kernel
theorem dX4_init_25 : decode cX4_init 25 = .ok (.invokespecial 11, 3) := by decide +kernel
theorem dX4_init_28 : decode cX4_init 28 = .ok (.putfield 20, 3) := by decide +kernel
theorem dX4_init_31 : decode cX4_init 31 = .ok (.aload_n 0, 1) := by decide +kernel
theorem dX4_init_32 : decode cX4_init 32 = .ok (.iconst 0, 1) := by decide +kernel
theorem dX4_init_33 : decode cX4_init 33 = .ok (.putfield 23, 3) := by decide +kernel
theorem dX4_init_36 : decode cX4_init 36 = .ok (.return_, 1) := by decide +kernel
theorem dX4_found_0 : decode cX4_found 0 = .ok (.iconst 0, 1) := by decide +kernel
theorem dX4_found_1 : decode cX4_found 1 = .ok (.istore 5, 2) := by decide +kernel
theorem dX4_found_3 : decode cX4_found 3 = .ok (.iload 5, 2) := by decide +kernel
theorem dX4_found_5 : decode cX4_found 5 = .ok (.aload_n 1, 1) := by decide +kernel
theorem dX4_found_6 : decode cX4_found 6 = .ok (.getfield 27, 3) := by decide +kernel
theorem dX4_found_9 : decode cX4_found 9 = .ok (.if_icmp .ge 25, 3) := by decide +kernel
theorem dX4_found_12 : decode cX4_found 12 = .ok (.aload_n 0, 1) := by decide +kernel
theorem dX4_found_13 : decode cX4_found 13 = .ok (.getfield 14, 3) := by decide +kernel
theorem dX4_found_16 : decode cX4_found 16 = .ok (.iload 5, 2) := by decide +kernel
theorem dX4_found_18 : decode cX4_found 18 = .ok (.aload_n 1, 1) := by decide +kernel
theorem dX4_found_19 : decode cX4_found 19 = .ok (.aload_n 2, 1) := by decide +kernel
theorem dX4_found_20 : decode cX4_found 20 = .ok (.iload 5, 2) := by decide +kernel
theorem dX4_found_22 : decode cX4_found 22 = .ok (.invokestatic 32, 3) := by decide +kernel
theorem dX4_found_25 : decode cX4_found 25 = .ok (.invokevirtual 36, 3) := by decide +kernel
theorem dX4_found_28 : decode cX4_found 28 = .ok (.iinc 5 1, 3) := by decide +kernel
theorem dX4_found_31 : decode cX4_found 31 = .ok (.goto (-28), 3) := by decide +kernel
theorem dX4_found_34 : decode cX4_found 34 = .ok (.aload_n 0, 1) := by decide +kernel
theorem dX4_found_35 : decode cX4_found 35 = .ok (.iconst 0, 1) := by decide +kernel
theorem dX4_found_36 : decode cX4_found 36 = .ok (.putfield 23, 3) := by decide +kernel
theorem dX4_found_39 : decode cX4_found 39 = .ok (.iconst 0, 1) := by decide +kernel
theorem dX4_found_40 : decode cX4_found 40 = .ok (.istore 5, 2) := by decide +kernel
theorem dX4_found_42 : decode cX4_found 42 = .ok (.iload 5, 2) := by decide +kernel
theorem dX4_found_44 : decode cX4_found 44 = .ok (.iload_n 3, 1) := by decide +kernel
theorem dX4_found_45 : decode cX4_found 45 = .ok (.if_icmp .ge 51, 3) := by decide +kernel
theorem dX4_found_48 : decode cX4_found 48 = .ok (.aload_n 0, 1) := by decide +kernel
theorem dX4_found_49 : decode cX4_found 49 = .ok (.aload_n 1, 1) := by decide +kernel
theorem dX4_found_50 : decode cX4_found 50 = .ok (.iload 4, 2) := by decide +kernel
theorem dX4_found_52 : decode cX4_found 52 = .ok (.invokevirtual 40, 3) := by decide +kernel
theorem dX4_found_55 : decode cX4_found 55 = .ok (.istore 6, 2) := by decide +kernel
theorem dX4_found_57 : decode cX4_found 57 = .ok (.iload 6, 2) := by decide +kernel
theorem dX4_found_59 : decode cX4_found 59 = .ok (.bipush (-6), 2) := by decide +kernel
theorem dX4_found_61 : decode cX4_found 61 = .ok (.if_icmp .ne 6, 3) := by decide +kernel
theorem dX4_found_64 : decode cX4_found 64 = .ok (.goto 32, 3) := by decide +kernel
theorem dX4_found_67 : decode cX4_found 67 = .ok (.aload_n 0, 1) := by decide +kernel
theorem dX4_found_68 : decode cX4_found 68 = .ok (.getfield 20, 3) := by decide +kernel
theorem dX4_found_71 : decode cX4_found 71 = .ok (.aload_n 0, 1) := by decide +kernel
theorem dX4_found_72 : decode cX4_found 72 = .ok (.getfield 23, 3) := by decide +kernel
theorem dX4_found_75 : decode cX4_found 75 = .ok (.iload 6, 2) := by decide +kernel
theorem dX4_found_77 : decode cX4_found 77 = .ok (.invokevirtual 36, 3) := by decide +kernel
theorem dX4_found_80 : decode cX4_found 80 = .ok (.aload_n 0, 1) := by decide +kernel
theorem dX4_found_81 : decode cX4_found 81 = .ok (.dup, 1) := by decide +kernel
theorem dX4_found_82 : decode cX4_found 82 = .ok (.getfield 23, 3) := by decide +kernel
theorem dX4_found_85 : decode cX4_found 85 = .ok (.iconst 1, 1) := by decide +kernel
theorem dX4_found_86 : decode cX4_found 86 = .ok (.iadd, 1) := by decide +kernel
theorem dX4_found_87 : decode cX4_found 87 = .ok (.putfield 23, 3) := by decide +kernel
theorem dX4_found_90 : decode cX4_found 90 = .ok (.iinc 5 1, 3) := by decide +kernel
theorem dX4_found_93 : decode cX4_found 93 = .ok (.goto (-51), 3) := by decide +kernel
theorem dX4_found_96 : decode cX4_found 96 = .ok (.return_, 1) := by decide +kernel
theorem dX4_worthOf_0 : decode cX4_worthOf 0 = .ok (.aload_n 1, 1) := by decide +kernel
theorem dX4_worthOf_1 : decode cX4_worthOf 1 = .ok (.getfield 44, 3) := by decide +kernel
theorem dX4_worthOf_4 : decode cX4_worthOf 4 = .ok (.iload_n 2, 1) := by decide +kernel
theorem dX4_worthOf_5 : decode cX4_worthOf 5 = .ok (.invokevirtual 49, 3) := by decide +kernel
theorem dX4_worthOf_8 : decode cX4_worthOf 8 = .ok (.bipush 8, 2) := by decide +kernel
theorem dX4_worthOf_10 : decode cX4_worthOf 10 = .ok (.if_icmp .eq 6, 3) := by decide +kernel
theorem dX4_worthOf_13 : decode cX4_worthOf 13 = .ok (.bipush (-6), 2) := by decide +kernel
theorem dX4_worthOf_15 : decode cX4_worthOf 15 = .ok (.ireturn, 1) := by decide +kernel
theorem dX4_worthOf_16 : decode cX4_worthOf 16 = .ok (.iconst 0, 1) := by decide +kernel
theorem dX4_worthOf_17 : decode cX4_worthOf 17 = .ok (.istore_n 3, 1) := by decide +kernel
theorem dX4_worthOf_18 : decode cX4_worthOf 18 = .ok (.iconst 0, 1) := by decide +kernel
theorem dX4_worthOf_19 : decode cX4_worthOf 19 = .ok (.istore 4, 2) := by decide +kernel
theorem dX4_worthOf_21 : decode cX4_worthOf 21 = .ok (.iload 4, 2) := by decide +kernel
theorem dX4_worthOf_23 : decode cX4_worthOf 23 = .ok (.iconst 4, 1) := by decide +kernel
theorem dX4_worthOf_24 : decode cX4_worthOf 24 = .ok (.if_icmp .ge 52, 3) := by decide +kernel
theorem dX4_worthOf_27 : decode cX4_worthOf 27 = .ok (.aload_n 0, 1) := by decide +kernel
theorem dX4_worthOf_28 : decode cX4_worthOf 28 = .ok (.iload_n 2, 1) := by decide +kernel
theorem dX4_worthOf_29 : decode cX4_worthOf 29 = .ok (.iload 4, 2) := by decide +kernel
theorem dX4_worthOf_31 : decode cX4_worthOf 31 = .ok (.invokevirtual 53, 3) := by decide +kernel
theorem dX4_worthOf_34 : decode cX4_worthOf 34 = .ok (.istore 5, 2) := by decide +kernel
theorem dX4_worthOf_36 : decode cX4_worthOf 36 = .ok (.iload 5, 2) := by decide +kernel
theorem dX4_worthOf_38 : decode cX4_worthOf 38 = .ok (.bipush (-6), 2) := by decide +kernel
theorem dX4_worthOf_40 : decode cX4_worthOf 40 = .ok (.if_icmp .eq 30, 3) := by decide +kernel
theorem dX4_worthOf_43 : decode cX4_worthOf 43 = .ok (.aload_n 1, 1) := by decide +kernel
theorem dX4_worthOf_44 : decode cX4_worthOf 44 = .ok (.getfield 44, 3) := by decide +kernel
theorem dX4_worthOf_47 : decode cX4_worthOf 47 = .ok (.iload 5, 2) := by decide +kernel
theorem dX4_worthOf_49 : decode cX4_worthOf 49 = .ok (.invokevirtual 49, 3) := by decide +kernel
theorem dX4_worthOf_52 : decode cX4_worthOf 52 = .ok (.iconst 4, 1) := by decide +kernel
theorem dX4_worthOf_53 : decode cX4_worthOf 53 = .ok (.if_icmp .ne 17, 3) := by decide +kernel
theorem dX4_worthOf_56 : decode cX4_worthOf 56 = .ok (.iload_n 3, 1) := by decide +kernel
theorem dX4_worthOf_57 : decode cX4_worthOf 57 = .ok (.aload_n 1, 1) := by decide +kernel
theorem dX4_worthOf_58 : decode cX4_worthOf 58 = .ok (.getfield 57, 3) := by decide +kernel
theorem dX4_worthOf_61 : decode cX4_worthOf 61 = .ok (.iload 5, 2) := by decide +kernel
theorem dX4_worthOf_63 : decode cX4_worthOf 63 = .ok (.invokevirtual 49, 3) := by decide +kernel
theorem dX4_worthOf_66 : decode cX4_worthOf 66 = .ok (.invokestatic 60, 3) := by decide +kernel
theorem dX4_worthOf_69 : decode cX4_worthOf 69 = .ok (.istore_n 3, 1) := by decide +kernel
theorem dX4_worthOf_70 : decode cX4_worthOf 70 = .ok (.iinc 4 1, 3) := by decide +kernel
theorem dX4_worthOf_73 : decode cX4_worthOf 73 = .ok (.goto (-52), 3) := by decide +kernel
theorem dX4_worthOf_76 : decode cX4_worthOf 76 = .ok (.sipush 500, 3) := by decide +kernel
theorem dX4_worthOf_79 : decode cX4_worthOf 79 = .ok (.aload_n 0, 1) := by decide +kernel
theorem dX4_worthOf_80 : decode cX4_worthOf 80 = .ok (.getfield 65, 3) := by decide +kernel
theorem dX4_worthOf_83 : decode cX4_worthOf 83 = .ok (.iload_n 2, 1) := by decide +kernel
theorem dX4_worthOf_84 : decode cX4_worthOf 84 = .ok (.invokevirtual 49, 3) := by decide +kernel
theorem dX4_worthOf_87 : decode cX4_worthOf 87 = .ok (.isub, 1) := by decide +kernel
theorem dX4_worthOf_88 : decode cX4_worthOf 88 = .ok (.iload_n 3, 1) := by decide +kernel
theorem dX4_worthOf_89 : decode cX4_worthOf 89 = .ok (.bipush 60, 2) := by decide +kernel
theorem dX4_worthOf_91 : decode cX4_worthOf 91 = .ok (.invokestatic 68, 3) := by decide +kernel
theorem dX4_worthOf_94 : decode cX4_worthOf 94 = .ok (.iadd, 1) := by decide +kernel
theorem dX4_worthOf_95 : decode cX4_worthOf 95 = .ok (.ireturn, 1) := by decide +kernel
theorem dX4_bestPlace_0 : decode cX4_bestPlace 0 = .ok (.bipush (-6), 2) := by decide +kernel
theorem dX4_bestPlace_2 : decode cX4_bestPlace 2 = .ok (.istore_n 3, 1) := by decide +kernel
theorem dX4_bestPlace_3 : decode cX4_bestPlace 3 = .ok (.iconst 0, 1) := by decide +kernel
theorem dX4_bestPlace_4 : decode cX4_bestPlace 4 = .ok (.istore 4, 2) := by decide +kernel
theorem dX4_bestPlace_6 : decode cX4_bestPlace 6 = .ok (.iload 4, 2) := by decide +kernel
theorem dX4_bestPlace_8 : decode cX4_bestPlace 8 = .ok (.aload_n 1, 1) := by decide +kernel
theorem dX4_bestPlace_9 : decode cX4_bestPlace 9 = .ok (.getfield 27, 3) := by decide +kernel
theorem dX4_bestPlace_12 : decode cX4_bestPlace 12 = .ok (.if_icmp .ge 63, 3) := by decide +kernel
theorem dX4_bestPlace_15 : decode cX4_bestPlace 15 = .ok (.aload_n 0, 1) := by decide +kernel
theorem dX4_bestPlace_16 : decode cX4_bestPlace 16 = .ok (.getfield 14, 3) := by decide +kernel
theorem dX4_bestPlace_19 : decode cX4_bestPlace 19 = .ok (.iload 4, 2) := by decide +kernel
theorem dX4_bestPlace_21 : decode cX4_bestPlace 21 = .ok (.invokevirtual 49, 3) := by decide +kernel
theorem dX4_bestPlace_24 : decode cX4_bestPlace 24 = .ok (.bipush (-6), 2) := by decide +kernel
theorem dX4_bestPlace_26 : decode cX4_bestPlace 26 = .ok (.if_icmp .eq 43, 3) := by decide +kernel
theorem dX4_bestPlace_29 : decode cX4_bestPlace 29 = .ok (.aload_n 0, 1) := by decide +kernel
theorem dX4_bestPlace_30 : decode cX4_bestPlace 30 = .ok (.aload_n 1, 1) := by decide +kernel
theorem dX4_bestPlace_31 : decode cX4_bestPlace 31 = .ok (.iload 4, 2) := by decide +kernel
theorem dX4_bestPlace_33 : decode cX4_bestPlace 33 = .ok (.iload_n 2, 1) := by decide +kernel
theorem dX4_bestPlace_34 : decode cX4_bestPlace 34 = .ok (.invokevirtual 71, 3) := by decide +kernel
theorem dX4_bestPlace_37 : decode cX4_bestPlace 37 = .ok (.ifCond .eq 32, 3) := by decide +kernel
theorem dX4_bestPlace_40 : decode cX4_bestPlace 40 = .ok (.iload_n 3, 1) := by decide +kernel
theorem dX4_bestPlace_41 : decode cX4_bestPlace 41 = .ok (.bipush (-6), 2) := by decide +kernel
theorem dX4_bestPlace_43 : decode cX4_bestPlace 43 = .ok (.if_icmp .eq 23, 3) := by decide +kernel
theorem dX4_bestPlace_46 : decode cX4_bestPlace 46 = .ok (.aload_n 0, 1) := by decide +kernel
theorem dX4_bestPlace_47 : decode cX4_bestPlace 47 = .ok (.getfield 14, 3) := by decide +kernel
theorem dX4_bestPlace_50 : decode cX4_bestPlace 50 = .ok (.iload 4, 2) := by decide +kernel
theorem dX4_bestPlace_52 : decode cX4_bestPlace 52 = .ok (.invokevirtual 49, 3) := by decide +kernel
theorem dX4_bestPlace_55 : decode cX4_bestPlace 55 = .ok (.aload_n 0, 1) := by decide +kernel
theorem dX4_bestPlace_56 : decode cX4_bestPlace 56 = .ok (.getfield 14, 3) := by decide +kernel
theorem dX4_bestPlace_59 : decode cX4_bestPlace 59 = .ok (.iload_n 3, 1) := by decide +kernel
theorem dX4_bestPlace_60 : decode cX4_bestPlace 60 = .ok (.invokevirtual 49, 3) := by decide +kernel
theorem dX4_bestPlace_63 : decode cX4_bestPlace 63 = .ok (.if_icmp .le 6, 3) := by decide +kernel
theorem dX4_bestPlace_66 : decode cX4_bestPlace 66 = .ok (.iload 4, 2) := by decide +kernel
theorem dX4_bestPlace_68 : decode cX4_bestPlace 68 = .ok (.istore_n 3, 1) := by decide +kernel
theorem dX4_bestPlace_69 : decode cX4_bestPlace 69 = .ok (.iinc 4 1, 3) := by decide +kernel
theorem dX4_bestPlace_72 : decode cX4_bestPlace 72 = .ok (.goto (-66), 3) := by decide +kernel
theorem dX4_bestPlace_75 : decode cX4_bestPlace 75 = .ok (.iload_n 3, 1) := by decide +kernel
theorem dX4_bestPlace_76 : decode cX4_bestPlace 76 = .ok (.ireturn, 1) := by decide +kernel
theorem dX4_isFarFromAll_0 : decode cX4_isFarFromAll 0 = .ok (.iconst 0, 1) := by decide +kernel
theorem dX4_isFarFromAll_1 : decode cX4_isFarFromAll 1 = .ok (.istore 4, 2) := by decide +kernel
theorem dX4_isFarFromAll_3 : decode cX4_isFarFromAll 3 = .ok (.iload 4, 2) := by decide +kernel
theorem dX4_isFarFromAll_5 : decode cX4_isFarFromAll 5 = .ok (.aload_n 0, 1) := by decide +kernel
theorem dX4_isFarFromAll_6 : decode cX4_isFarFromAll 6 = .ok (.getfield 23, 3) := by decide +kernel
theorem dX4_isFarFromAll_9 : decode cX4_isFarFromAll 9 = .ok (.if_icmp .ge 29, 3) := by decide +kernel
theorem dX4_isFarFromAll_12 : decode cX4_isFarFromAll 12 = .ok (.aload_n 1, 1) := by decide +kernel
theorem dX4_isFarFromAll_13 : decode cX4_isFarFromAll 13 = .ok (.iload_n 2, 1) := by decide +kernel
theorem dX4_isFarFromAll_14 : decode cX4_isFarFromAll 14 = .ok (.aload_n 0, 1) := by decide +kernel
theorem dX4_isFarFromAll_15 : decode cX4_isFarFromAll 15 = .ok (.getfield 20, 3) := by decide +kernel
theorem dX4_isFarFromAll_18 : decode cX4_isFarFromAll 18 = .ok (.iload 4, 2) := by decide +kernel
theorem dX4_isFarFromAll_20 : decode cX4_isFarFromAll 20 = .ok (.invokevirtual 49, 3) := by decide +kernel
theorem dX4_isFarFromAll_23 : decode cX4_isFarFromAll 23 = .ok (.invokevirtual 75, 3) := by decide +kernel
theorem dX4_isFarFromAll_26 : decode cX4_isFarFromAll 26 = .ok (.iload_n 3, 1) := by decide +kernel
theorem dX4_isFarFromAll_27 : decode cX4_isFarFromAll 27 = .ok (.if_icmp .ge 5, 3) := by decide +kernel
theorem dX4_isFarFromAll_30 : decode cX4_isFarFromAll 30 = .ok (.iconst 0, 1) := by decide +kernel
theorem dX4_isFarFromAll_31 : decode cX4_isFarFromAll 31 = .ok (.ireturn, 1) := by decide +kernel
theorem dX4_isFarFromAll_32 : decode cX4_isFarFromAll 32 = .ok (.iinc 4 1, 3) := by decide +kernel
theorem dX4_isFarFromAll_35 : decode cX4_isFarFromAll 35 = .ok (.goto (-32), 3) := by decide +kernel
theorem dX4_isFarFromAll_38 : decode cX4_isFarFromAll 38 = .ok (.iconst 1, 1) := by decide +kernel
theorem dX4_isFarFromAll_39 : decode cX4_isFarFromAll 39 = .ok (.ireturn, 1) := by decide +kernel
theorem dX4_isAt_0 : decode cX4_isAt 0 = .ok (.iconst 0, 1) := by decide +kernel
theorem dX4_isAt_1 : decode cX4_isAt 1 = .ok (.istore_n 2, 1) := by decide +kernel
theorem dX4_isAt_2 : decode cX4_isAt 2 = .ok (.iload_n 2, 1) := by decide +kernel
theorem dX4_isAt_3 : decode cX4_isAt 3 = .ok (.aload_n 0, 1) := by decide +kernel
theorem dX4_isAt_4 : decode cX4_isAt 4 = .ok (.getfield 23, 3) := by decide +kernel
theorem dX4_isAt_7 : decode cX4_isAt 7 = .ok (.if_icmp .ge 23, 3) := by decide +kernel
theorem dX4_isAt_10 : decode cX4_isAt 10 = .ok (.aload_n 0, 1) := by decide +kernel
theorem dX4_isAt_11 : decode cX4_isAt 11 = .ok (.getfield 20, 3) := by decide +kernel
theorem dX4_isAt_14 : decode cX4_isAt 14 = .ok (.iload_n 2, 1) := by decide +kernel
theorem dX4_isAt_15 : decode cX4_isAt 15 = .ok (.invokevirtual 49, 3) := by decide +kernel
theorem dX4_isAt_18 : decode cX4_isAt 18 = .ok (.iload_n 1, 1) := by decide +kernel
theorem dX4_isAt_19 : decode cX4_isAt 19 = .ok (.if_icmp .ne 5, 3) := by decide +kernel
theorem dX4_isAt_22 : decode cX4_isAt 22 = .ok (.iconst 1, 1) := by decide +kernel
theorem dX4_isAt_23 : decode cX4_isAt 23 = .ok (.ireturn, 1) := by decide +kernel
theorem dX4_isAt_24 : decode cX4_isAt 24 = .ok (.iinc 2 1, 3) := by decide +kernel
theorem dX4_isAt_27 : decode cX4_isAt 27 = .ok (.goto (-25), 3) := by decide +kernel
theorem dX4_isAt_30 : decode cX4_isAt 30 = .ok (.iconst 0, 1) := by decide +kernel
theorem dX4_isAt_31 : decode cX4_isAt 31 = .ok (.ireturn, 1) := by decide +kernel
theorem dX5_init_0 : decode cX5_init 0 = .ok (.aload_n 0, 1) := by decide +kernel
theorem dX5_init_1 : decode cX5_init 1 = .ok (.invokespecial 3, 3) := by decide +kernel
theorem dX5_init_4 : decode cX5_init 4 = .ok (.aload_n 0, 1) := by decide +kernel
theorem dX5_init_5 : decode cX5_init 5 = .ok (.iconst 0, 1) := by decide +kernel
theorem dX5_init_6 : decode cX5_init 6 = .ok (.putfield 9, 3) := by decide +kernel
theorem dX5_init_9 : decode cX5_init 9 = .ok (.aload_n 0, 1) := by decide +kernel
theorem dX5_init_10 : decode cX5_init 10 = .ok (.bipush 12, 2) := by decide +kernel
theorem dX5_init_12 : decode cX5_init 12 = .ok (.putfield 15, 3) := by decide +kernel
theorem dX5_init_15 : decode cX5_init 15 = .ok (.aload_n 0, 1) := by decide +kernel
theorem dX5_init_16 : decode cX5_init 16 = .ok (.sipush 144, 3) := by decide +kernel
theorem dX5_init_19 : decode cX5_init 19 = .ok (.putfield 18, 3) := by decide +kernel
theorem dX5_init_22 : decode cX5_init 22 = .ok (.aload_n 0, 1) := by decide +kernel
theorem dX5_init_23 : decode cX5_init 23 = .ok (.iconst 0, 1) := by decide +kernel
theorem dX5_init_24 : decode cX5_init 24 = .ok (.putfield 21, 3) := by decide +kernel
theorem dX5_init_27 : decode cX5_init 27 = .ok (.aload_n 0, 1) := by decide +kernel
theorem dX5_init_28 : decode cX5_init 28 = .ok (.iconst 0, 1) := by decide +kernel
theorem dX5_init_29 : decode cX5_init 29 = .ok (.putfield 24, 3) := by decide +kernel
theorem dX5_init_32 : decode cX5_init 32 = .ok (.aload_n 0, 1) := by decide +kernel
theorem dX5_init_33 : decode cX5_init 33 = .ok (.iconst 0, 1) := by decide +kernel
theorem dX5_init_34 : decode cX5_init 34 = .ok (.putfield 27, 3) := by decide +kernel
theorem dX5_init_37 : decode cX5_init 37 = .ok (.aload_n 0, 1) := by decide +kernel
theorem dX5_init_38 : decode cX5_init 38 = .ok (.new 30, 3) := by decide +kernel
theorem dX5_init_41 : decode cX5_init 41 = .ok (.dup, 1) := by decide +kernel
theorem dX5_init_42 : decode cX5_init 42 = .ok (.bipush 30, 2) := by decide +kernel
theorem dX5_init_44 : decode cX5_init 44 = .ok (.invokespecial 32, 3) := by decide +kernel
theorem dX5_init_47 : decode cX5_init 47 = .ok (.putfield 35, 3) := by decide +kernel
theorem dX5_init_50 : decode cX5_init 50 = .ok (.aload_n 0, 1) := by decide +kernel
theorem dX5_init_51 : decode cX5_init 51 = .ok (.new 30, 3) := by decide +kernel
theorem dX5_init_54 : decode cX5_init 54 = .ok (.dup, 1) := by decide +kernel
theorem dX5_init_55 : decode cX5_init 55 = .ok (.bipush 30, 2) := by decide +kernel
theorem dX5_init_57 : decode cX5_init 57 = .ok (.invokespecial 32, 3) := by decide +kernel
theorem dX5_init_60 : decode cX5_init 60 = .ok (.putfield 39, 3) := by decide +kernel
theorem dX5_init_63 : decode cX5_init 63 = .ok (.aload_n 0, 1) := by decide +kernel
theorem dX5_init_64 : decode cX5_init 64 = .ok (.new 30, 3) := by decide +kernel
theorem dX5_init_67 : decode cX5_init 67 = .ok (.dup, 1) := by decide +kernel
theorem dX5_init_68 : decode cX5_init 68 = .ok (.bipush 30, 2) := by decide +kernel
theorem dX5_init_70 : decode cX5_init 70 = .ok (.invokespecial 32, 3) := by decide +kernel
theorem dX5_init_73 : decode cX5_init 73 = .ok (.putfield 42, 3) := by decide +kernel
theorem dX5_init_76 : decode cX5_init 76 = .ok (.aload_n 0, 1) := by decide +kernel
theorem dX5_init_77 : decode cX5_init 77 = .ok (.new 30, 3) := by decide +kernel
theorem dX5_init_80 : decode cX5_init 80 = .ok (.dup, 1) := by decide +kernel
theorem dX5_init_81 : decode cX5_init 81 = .ok (.sipush 576, 3) := by decide +kernel
theorem dX5_init_84 : decode cX5_init 84 = .ok (.invokespecial 32, 3) := by decide +kernel
theorem dX5_init_87 : decode cX5_init 87 = .ok (.putfield 45, 3) := by decide +kernel
theorem dX5_init_90 : decode cX5_init 90 = .ok (.aload_n 0, 1) := by decide +kernel
theorem dX5_init_91 : decode cX5_init 91 = .ok (.new 30, 3) := by decide +kernel
theorem dX5_init_94 : decode cX5_init 94 = .ok (.dup, 1) := by decide +kernel
theorem dX5_init_95 : decode cX5_init 95 = .ok (.sipush 576, 3) := by decide +kernel
theorem dX5_init_98 : decode cX5_init 98 = .ok (.invokespecial 32, 3) := by decide +kernel
theorem dX5_init_101 : decode cX5_init 101 = .ok (.putfield 48, 3) := by decide +kernel
theorem dX5_init_104 : decode cX5_init 104 = .ok (.aload_n 0, 1) := by decide +kernel
theorem dX5_init_105 : decode cX5_init 105 = .ok (.new 30, 3) := by decide +kernel
theorem dX5_init_108 : decode cX5_init 108 = .ok (.dup, 1) := by decide +kernel
theorem dX5_init_109 : decode cX5_init 109 = .ok (.sipush 576, 3) := by decide +kernel
theorem dX5_init_112 : decode cX5_init 112 = .ok (.invokespecial 32, 3) := by decide +kernel
theorem dX5_init_115 : decode cX5_init 115 = .ok (.putfield 51, 3) := by decide +kernel
theorem dX5_init_118 : decode cX5_init 118 = .ok (.aload_n 0, 1) := by decide +kernel
theorem dX5_init_119 : decode cX5_init 119 = .ok (.new 30, 3) := by decide +kernel
theorem dX5_init_122 : decode cX5_init 122 = .ok (.dup, 1) := by decide +kernel
theorem dX5_init_123 : decode cX5_init 123 = .ok (.sipush 576, 3) := by decide +kernel
theorem dX5_init_126 : decode cX5_init 126 = .ok (.invokespecial 32, 3) := by decide +kernel
theorem dX5_init_129 : decode cX5_init 129 = .ok (.putfield 54, 3) := by decide +kernel
theorem dX5_init_132 : decode cX5_init 132 = .ok (.return_, 1) := by decide +kernel
theorem dX5_hasPlace_0 : decode cX5_hasPlace 0 = .ok (.iload_n 1, 1) := by decide +kernel
theorem dX5_hasPlace_1 : decode cX5_hasPlace 1 = .ok (.ifCond .lt 15, 3) := by decide +kernel
theorem dX5_hasPlace_4 : decode cX5_hasPlace 4 = .ok (.iload_n 1, 1) := by decide +kernel
theorem dX5_hasPlace_5 : decode cX5_hasPlace 5 = .ok (.aload_n 0, 1) := by decide +kernel
theorem dX5_hasPlace_6 : decode cX5_hasPlace 6 = .ok (.getfield 18, 3) := by decide +kernel
theorem dX5_hasPlace_9 : decode cX5_hasPlace 9 = .ok (.if_icmp .ge 7, 3) := by decide +kernel
theorem dX5_hasPlace_12 : decode cX5_hasPlace 12 = .ok (.iconst 1, 1) := by decide +kernel
theorem dX5_hasPlace_13 : decode cX5_hasPlace 13 = .ok (.goto 4, 3) := by decide +kernel
theorem dX5_hasPlace_16 : decode cX5_hasPlace 16 = .ok (.iconst 0, 1) := by decide +kernel
theorem dX5_hasPlace_17 : decode cX5_hasPlace 17 = .ok (.ireturn, 1) := by decide +kernel
theorem dX5_growGround_0 : decode cX5_growGround 0 = .ok (.iconst 0, 1) := by decide +kernel
theorem dX5_growGround_1 : decode cX5_growGround 1 = .ok (.istore_n 1, 1) := by decide +kernel
theorem dX5_growGround_2 : decode cX5_growGround 2 = .ok (.iload_n 1, 1) := by decide +kernel
theorem dX5_growGround_3 : decode cX5_growGround 3 = .ok (.aload_n 0, 1) := by decide +kernel
theorem dX5_growGround_4 : decode cX5_growGround 4 = .ok (.getfield 15, 3) := by decide +kernel
theorem dX5_growGround_7 : decode cX5_growGround 7 = .ok (.if_icmp .ge 76, 3) := by decide +kernel
theorem dX5_growGround_10 : decode cX5_growGround 10 = .ok (.iconst 0, 1) := by decide +kernel
theorem dX5_growGround_11 : decode cX5_growGround 11 = .ok (.istore_n 2, 1) := by decide +kernel
theorem dX5_growGround_12 : decode cX5_growGround 12 = .ok (.iload_n 2, 1) := by decide +kernel
theorem dX5_growGround_13 : decode cX5_growGround 13 = .ok (.aload_n 0, 1) := by decide +kernel
theorem dX5_growGround_14 : decode cX5_growGround 14 = .ok (.getfield 15, 3) := by decide +kernel
theorem dX5_growGround_17 : decode cX5_growGround 17 = .ok (.if_icmp .ge 60, 3) := by decide +kernel
theorem dX5_growGround_20 : decode cX5_growGround 20 = .ok (.aload_n 0, 1) := by decide +kernel
theorem dX5_growGround_21 : decode cX5_growGround 21 = .ok (.getfield 15, 3) := by decide +kernel
theorem dX5_growGround_24 : decode cX5_growGround 24 = .ok (.iload_n 1, 1) := by decide +kernel
theorem dX5_growGround_25 : decode cX5_growGround 25 = .ok (.imul, 1) := by decide +kernel
theorem dX5_growGround_26 : decode cX5_growGround 26 = .ok (.iload_n 2, 1) := by decide +kernel
theorem dX5_growGround_27 : decode cX5_growGround 27 = .ok (.iadd, 1) := by decide +kernel
theorem dX5_growGround_28 : decode cX5_growGround 28 = .ok (.istore_n 3, 1) := by decide +kernel
theorem dX5_growGround_29 : decode cX5_growGround 29 = .ok (.aload_n 0, 1) := by decide +kernel
theorem dX5_growGround_30 : decode cX5_growGround 30 = .ok (.getfield 45, 3) := by decide +kernel
theorem dX5_growGround_33 : decode cX5_growGround 33 = .ok (.iload_n 3, 1) := by decide +kernel
theorem dX5_growGround_34 : decode cX5_growGround 34 = .ok (.iload_n 2, 1) := by decide +kernel
theorem dX5_growGround_35 : decode cX5_growGround 35 = .ok (.invokevirtual 57, 3) := by decide +kernel
theorem dX5_growGround_38 : decode cX5_growGround 38 = .ok (.aload_n 0, 1) := by decide +kernel
theorem dX5_growGround_39 : decode cX5_growGround 39 = .ok (.getfield 48, 3) := by decide +kernel
theorem dX5_growGround_42 : decode cX5_growGround 42 = .ok (.iload_n 3, 1) := by decide +kernel
theorem dX5_growGround_43 : decode cX5_growGround 43 = .ok (.iload_n 1, 1) := by decide +kernel
theorem dX5_growGround_44 : decode cX5_growGround 44 = .ok (.invokevirtual 57, 3) := by decide +kernel
theorem dX5_growGround_47 : decode cX5_growGround 47 = .ok (.aload_n 0, 1) := by decide +kernel
theorem dX5_growGround_48 : decode cX5_growGround 48 = .ok (.getfield 51, 3) := by decide +kernel
theorem dX5_growGround_51 : decode cX5_growGround 51 = .ok (.iload_n 3, 1) := by decide +kernel
theorem dX5_growGround_52 : decode cX5_growGround 52 = .ok (.aload_n 0, 1) := by decide +kernel
theorem dX5_growGround_53 : decode cX5_growGround 53 = .ok (.aload_n 0, 1) := by decide +kernel
theorem dX5_growGround_54 : decode cX5_growGround 54 = .ok (.getfield 21, 3) := by decide +kernel
theorem dX5_growGround_57 : decode cX5_growGround 57 = .ok (.iload_n 2, 1) := by decide +kernel
theorem dX5_growGround_58 : decode cX5_growGround 58 = .ok (.iadd, 1) := by decide +kernel
theorem dX5_growGround_59 : decode cX5_growGround 59 = .ok (.aload_n 0, 1) := by decide +kernel
theorem dX5_growGround_60 : decode cX5_growGround 60 = .ok (.getfield 24, 3) := by decide +kernel
theorem dX5_growGround_63 : decode cX5_growGround 63 = .ok (.iload_n 1, 1) := by decide +kernel
theorem dX5_growGround_64 : decode cX5_growGround 64 = .ok (.iadd, 1) := by decide +kernel
theorem dX5_growGround_65 : decode cX5_growGround 65 = .ok (.invokevirtual 61, 3) := by decide +kernel
theorem dX5_growGround_68 : decode cX5_growGround 68 = .ok (.invokevirtual 57, 3) := by decide +kernel
theorem dX5_growGround_71 : decode cX5_growGround 71 = .ok (.iinc 2 1, 3) := by decide +kernel
theorem dX5_growGround_74 : decode cX5_growGround 74 = .ok (.goto (-62), 3) := by decide +kernel
theorem dX5_growGround_77 : decode cX5_growGround 77 = .ok (.iinc 1 1, 3) := by decide +kernel
theorem dX5_growGround_80 : decode cX5_growGround 80 = .ok (.goto (-78), 3) := by decide +kernel
theorem dX5_growGround_83 : decode cX5_growGround 83 = .ok (.return_, 1) := by decide +kernel
theorem dX5_groundOf_0 : decode cX5_groundOf 0 = .ok (.iconst 4, 1) := by decide +kernel
theorem dX5_groundOf_1 : decode cX5_groundOf 1 = .ok (.aload_n 0, 1) := by decide +kernel
theorem dX5_groundOf_2 : decode cX5_groundOf 2 = .ok (.iconst 0, 1) := by decide +kernel
theorem dX5_groundOf_3 : decode cX5_groundOf 3 = .ok (.iload_n 1, 1) := by decide +kernel
theorem dX5_groundOf_4 : decode cX5_groundOf 4 = .ok (.iload_n 2, 1) := by decide +kernel
theorem dX5_groundOf_5 : decode cX5_groundOf 5 = .ok (.invokevirtual 65, 3) := by decide +kernel
theorem dX5_groundOf_8 : decode cX5_groundOf 8 = .ok (.imul, 1) := by decide +kernel
theorem dX5_groundOf_9 : decode cX5_groundOf 9 = .ok (.iconst 2, 1) := by decide +kernel
theorem dX5_groundOf_10 : decode cX5_groundOf 10 = .ok (.aload_n 0, 1) := by decide +kernel
theorem dX5_groundOf_11 : decode cX5_groundOf 11 = .ok (.iconst 1, 1) := by decide +kernel
theorem dX5_groundOf_12 : decode cX5_groundOf 12 = .ok (.iload_n 1, 1) := by decide +kernel
theorem dX5_groundOf_13 : decode cX5_groundOf 13 = .ok (.iload_n 2, 1) := by decide +kernel
theorem dX5_groundOf_14 : decode cX5_groundOf 14 = .ok (.invokevirtual 65, 3) := by decide +kernel
theorem dX5_groundOf_17 : decode cX5_groundOf 17 = .ok (.imul, 1) := by decide +kernel
theorem dX5_groundOf_18 : decode cX5_groundOf 18 = .ok (.iadd, 1) := by decide +kernel
theorem dX5_groundOf_19 : decode cX5_groundOf 19 = .ok (.aload_n 0, 1) := by decide +kernel
theorem dX5_groundOf_20 : decode cX5_groundOf 20 = .ok (.iconst 2, 1) := by decide +kernel
theorem dX5_groundOf_21 : decode cX5_groundOf 21 = .ok (.iload_n 1, 1) := by decide +kernel
theorem dX5_groundOf_22 : decode cX5_groundOf 22 = .ok (.iload_n 2, 1) := by decide +kernel
theorem dX5_groundOf_23 : decode cX5_groundOf 23 = .ok (.invokevirtual 65, 3) := by decide +kernel
theorem dX5_groundOf_26 : decode cX5_groundOf 26 = .ok (.iadd, 1) := by decide +kernel
theorem dX5_groundOf_27 : decode cX5_groundOf 27 = .ok (.bipush 7, 2) := by decide +kernel
theorem dX5_groundOf_29 : decode cX5_groundOf 29 = .ok (.idiv, 1) := by decide +kernel
theorem dX5_groundOf_30 : decode cX5_groundOf 30 = .ok (.ireturn, 1) := by decide +kernel
theorem dX5_layerOf_0 : decode cX5_layerOf 0 = .ok (.iconst 3, 1) := by decide +kernel
theorem dX5_layerOf_1 : decode cX5_layerOf 1 = .ok (.iload_n 1, 1) := by decide +kernel
theorem dX5_layerOf_2 : decode cX5_layerOf 2 = .ok (.isub, 1) := by decide +kernel
theorem dX5_layerOf_3 : decode cX5_layerOf 3 = .ok (.istore 4, 2) := by decide +kernel
theorem dX5_layerOf_5 : decode cX5_layerOf 5 = .ok (.iconst 1, 1) := by decide +kernel
theorem dX5_layerOf_6 : decode cX5_layerOf 6 = .ok (.iload 4, 2) := by decide +kernel
theorem dX5_layerOf_8 : decode cX5_layerOf 8 = .ok (.ishl, 1) := by decide +kernel
theorem dX5_layerOf_9 : decode cX5_layerOf 9 = .ok (.istore 5, 2) := by decide +kernel
theorem dX5_layerOf_11 : decode cX5_layerOf 11 = .ok (.iload_n 2, 1) := by decide +kernel
theorem dX5_layerOf_12 : decode cX5_layerOf 12 = .ok (.iload 4, 2) := by decide +kernel
theorem dX5_layerOf_14 : decode cX5_layerOf 14 = .ok (.ishr, 1) := by decide +kernel
theorem dX5_layerOf_15 : decode cX5_layerOf 15 = .ok (.istore 6, 2) := by decide +kernel
theorem dX5_layerOf_17 : decode cX5_layerOf 17 = .ok (.iload_n 3, 1) := by decide +kernel
theorem dX5_layerOf_18 : decode cX5_layerOf 18 = .ok (.iload 4, 2) := by decide +kernel
theorem dX5_layerOf_20 : decode cX5_layerOf 20 = .ok (.ishr, 1) := by decide +kernel
theorem dX5_layerOf_21 : decode cX5_layerOf 21 = .ok (.istore 7, 2) := by decide +kernel
theorem dX5_layerOf_23 : decode cX5_layerOf 23 = .ok (.iload_n 2, 1) := by decide +kernel
theorem dX5_layerOf_24 : decode cX5_layerOf 24 = .ok (.iload 5, 2) := by decide +kernel
theorem dX5_layerOf_26 : decode cX5_layerOf 26 = .ok (.iconst 1, 1) := by decide +kernel
theorem dX5_layerOf_27 : decode cX5_layerOf 27 = .ok (.isub, 1) := by decide +kernel
theorem dX5_layerOf_28 : decode cX5_layerOf 28 = .ok (.iand, 1) := by decide +kernel
theorem dX5_layerOf_29 : decode cX5_layerOf 29 = .ok (.istore 8, 2) := by decide +kernel
theorem dX5_layerOf_31 : decode cX5_layerOf 31 = .ok (.iload_n 3, 1) := by decide +kernel
theorem dX5_layerOf_32 : decode cX5_layerOf 32 = .ok (.iload 5, 2) := by decide +kernel
theorem dX5_layerOf_34 : decode cX5_layerOf 34 = .ok (.iconst 1, 1) := by decide +kernel
theorem dX5_layerOf_35 : decode cX5_layerOf 35 = .ok (.isub, 1) := by decide +kernel
theorem dX5_layerOf_36 : decode cX5_layerOf 36 = .ok (.iand, 1) := by decide +kernel
theorem dX5_layerOf_37 : decode cX5_layerOf 37 = .ok (.istore 9, 2) := by decide +kernel
theorem dX5_layerOf_39 : decode cX5_layerOf 39 = .ok (.aload_n 0, 1) := by decide +kernel
theorem dX5_layerOf_40 : decode cX5_layerOf 40 = .ok (.iload_n 1, 1) := by decide +kernel
theorem dX5_layerOf_41 : decode cX5_layerOf 41 = .ok (.iload 6, 2) := by decide +kernel
theorem dX5_layerOf_43 : decode cX5_layerOf 43 = .ok (.iload 7, 2) := by decide +kernel
theorem dX5_layerOf_45 : decode cX5_layerOf 45 = .ok (.invokevirtual 69, 3) := by decide +kernel
theorem dX5_layerOf_48 : decode cX5_layerOf 48 = .ok (.iload 5, 2) := by decide +kernel
theorem dX5_layerOf_50 : decode cX5_layerOf 50 = .ok (.iload 8, 2) := by decide +kernel
theorem dX5_layerOf_52 : decode cX5_layerOf 52 = .ok (.isub, 1) := by decide +kernel
theorem dX5_layerOf_53 : decode cX5_layerOf 53 = .ok (.imul, 1) := by decide +kernel
theorem dX5_layerOf_54 : decode cX5_layerOf 54 = .ok (.aload_n 0, 1) := by decide +kernel
theorem dX5_layerOf_55 : decode cX5_layerOf 55 = .ok (.iload_n 1, 1) := by decide +kernel
theorem dX5_layerOf_56 : decode cX5_layerOf 56 = .ok (.iload 6, 2) := by decide +kernel
theorem dX5_layerOf_58 : decode cX5_layerOf 58 = .ok (.iconst 1, 1) := by decide +kernel
theorem dX5_layerOf_59 : decode cX5_layerOf 59 = .ok (.iadd, 1) := by decide +kernel
theorem dX5_layerOf_60 : decode cX5_layerOf 60 = .ok (.iload 7, 2) := by decide +kernel
theorem dX5_layerOf_62 : decode cX5_layerOf 62 = .ok (.invokevirtual 69, 3) := by decide +kernel
theorem dX5_layerOf_65 : decode cX5_layerOf 65 = .ok (.iload 8, 2) := by decide +kernel
theorem dX5_layerOf_67 : decode cX5_layerOf 67 = .ok (.imul, 1) := by decide +kernel
theorem dX5_layerOf_68 : decode cX5_layerOf 68 = .ok (.iadd, 1) := by decide +kernel
theorem dX5_layerOf_69 : decode cX5_layerOf 69 = .ok (.istore 10, 2) := by decide +kernel
theorem dX5_layerOf_71 : decode cX5_layerOf 71 = .ok (.aload_n 0, 1) := by decide +kernel
theorem dX5_layerOf_72 : decode cX5_layerOf 72 = .ok (.iload_n 1, 1) := by decide +kernel
theorem dX5_layerOf_73 : decode cX5_layerOf 73 = .ok (.iload 6, 2) := by decide +kernel
theorem dX5_layerOf_75 : decode cX5_layerOf 75 = .ok (.iload 7, 2) := by decide +kernel
theorem dX5_layerOf_77 : decode cX5_layerOf 77 = .ok (.iconst 1, 1) := by decide +kernel
theorem dX5_layerOf_78 : decode cX5_layerOf 78 = .ok (.iadd, 1) := by decide +kernel
theorem dX5_layerOf_79 : decode cX5_layerOf 79 = .ok (.invokevirtual 69, 3) := by decide +kernel
theorem dX5_layerOf_82 : decode cX5_layerOf 82 = .ok (.iload 5, 2) := by decide +kernel
theorem dX5_layerOf_84 : decode cX5_layerOf 84 = .ok (.iload 8, 2) := by decide +kernel
theorem dX5_layerOf_86 : decode cX5_layerOf 86 = .ok (.isub, 1) := by decide +kernel
theorem dX5_layerOf_87 : decode cX5_layerOf 87 = .ok (.imul, 1) := by decide +kernel
theorem dX5_layerOf_88 : decode cX5_layerOf 88 = .ok (.aload_n 0, 1) := by decide +kernel
theorem dX5_layerOf_89 : decode cX5_layerOf 89 = .ok (.iload_n 1, 1) := by decide +kernel
theorem dX5_layerOf_90 : decode cX5_layerOf 90 = .ok (.iload 6, 2) := by decide +kernel
theorem dX5_layerOf_92 : decode cX5_layerOf 92 = .ok (.iconst 1, 1) := by decide +kernel
theorem dX5_layerOf_93 : decode cX5_layerOf 93 = .ok (.iadd, 1) := by decide +kernel
theorem dX5_layerOf_94 : decode cX5_layerOf 94 = .ok (.iload 7, 2) := by decide +kernel
theorem dX5_layerOf_96 : decode cX5_layerOf 96 = .ok (.iconst 1, 1) := by decide +kernel
theorem dX5_layerOf_97 : decode cX5_layerOf 97 = .ok (.iadd, 1) := by decide +kernel
theorem dX5_layerOf_98 : decode cX5_layerOf 98 = .ok (.invokevirtual 69, 3) := by decide +kernel
theorem dX5_layerOf_101 : decode cX5_layerOf 101 = .ok (.iload 8, 2) := by decide +kernel
theorem dX5_layerOf_103 : decode cX5_layerOf 103 = .ok (.imul, 1) := by decide +kernel
theorem dX5_layerOf_104 : decode cX5_layerOf 104 = .ok (.iadd, 1) := by decide +kernel
theorem dX5_layerOf_105 : decode cX5_layerOf 105 = .ok (.istore 11, 2) := by decide +kernel
theorem dX5_layerOf_107 : decode cX5_layerOf 107 = .ok (.iload 10, 2) := by decide +kernel
theorem dX5_layerOf_109 : decode cX5_layerOf 109 = .ok (.iload 5, 2) := by decide +kernel
theorem dX5_layerOf_111 : decode cX5_layerOf 111 = .ok (.iload 9, 2) := by decide +kernel
theorem dX5_layerOf_113 : decode cX5_layerOf 113 = .ok (.isub, 1) := by decide +kernel
theorem dX5_layerOf_114 : decode cX5_layerOf 114 = .ok (.imul, 1) := by decide +kernel
theorem dX5_layerOf_115 : decode cX5_layerOf 115 = .ok (.iload 11, 2) := by decide +kernel
theorem dX5_layerOf_117 : decode cX5_layerOf 117 = .ok (.iload 9, 2) := by decide +kernel
theorem dX5_layerOf_119 : decode cX5_layerOf 119 = .ok (.imul, 1) := by decide +kernel
theorem dX5_layerOf_120 : decode cX5_layerOf 120 = .ok (.iadd, 1) := by decide +kernel
theorem dX5_layerOf_121 : decode cX5_layerOf 121 = .ok (.iconst 2, 1) := by decide +kernel
theorem dX5_layerOf_122 : decode cX5_layerOf 122 = .ok (.iload 4, 2) := by decide +kernel
theorem dX5_layerOf_124 : decode cX5_layerOf 124 = .ok (.imul, 1) := by decide +kernel
theorem dX5_layerOf_125 : decode cX5_layerOf 125 = .ok (.ishr, 1) := by decide +kernel
theorem dX5_layerOf_126 : decode cX5_layerOf 126 = .ok (.ireturn, 1) := by decide +kernel
theorem dX5_cornerOf_0 : decode cX5_cornerOf 0 = .ok (.aload_n 0, 1) := by decide +kernel
theorem dX5_cornerOf_1 : decode cX5_cornerOf 1 = .ok (.getfield 9, 3) := by decide +kernel
theorem dX5_cornerOf_4 : decode cX5_cornerOf 4 = .ok (.ldc 72, 2) := by decide +kernel
theorem dX5_cornerOf_6 : decode cX5_cornerOf 6 = .ok (.imul, 1) := by decide +kernel
theorem dX5_cornerOf_7 : decode cX5_cornerOf 7 = .ok (.iload_n 1, 1) := by decide +kernel
theorem dX5_cornerOf_8 : decode cX5_cornerOf 8 = .ok (.ldc 73, 2) := by decide +kernel
theorem dX5_cornerOf_10 : decode cX5_cornerOf 10 = .ok (.imul, 1) := by decide +kernel
theorem dX5_cornerOf_11 : decode cX5_cornerOf 11 = .ok (.iadd, 1) := by decide +kernel
theorem dX5_cornerOf_12 : decode cX5_cornerOf 12 = .ok (.iload_n 2, 1) := by decide +kernel
theorem dX5_cornerOf_13 : decode cX5_cornerOf 13 = .ok (.ldc 74, 2) := by decide +kernel
theorem dX5_cornerOf_15 : decode cX5_cornerOf 15 = .ok (.imul, 1) := by decide +kernel
theorem dX5_cornerOf_16 : decode cX5_cornerOf 16 = .ok (.iadd, 1) := by decide +kernel
theorem dX5_cornerOf_17 : decode cX5_cornerOf 17 = .ok (.iload_n 3, 1) := by decide +kernel
theorem dX5_cornerOf_18 : decode cX5_cornerOf 18 = .ok (.ldc 75, 2) := by decide +kernel
theorem dX5_cornerOf_20 : decode cX5_cornerOf 20 = .ok (.imul, 1) := by decide +kernel
theorem dX5_cornerOf_21 : decode cX5_cornerOf 21 = .ok (.iadd, 1) := by decide +kernel
theorem dX5_cornerOf_22 : decode cX5_cornerOf 22 = .ok (.istore 4, 2) := by decide +kernel
theorem dX5_cornerOf_24 : decode cX5_cornerOf 24 = .ok (.iload 4, 2) := by decide +kernel
theorem dX5_cornerOf_26 : decode cX5_cornerOf 26 = .ok (.iload 4, 2) := by decide +kernel
theorem dX5_cornerOf_28 : decode cX5_cornerOf 28 = .ok (.bipush 15, 2) := by decide +kernel
theorem dX5_cornerOf_30 : decode cX5_cornerOf 30 = .ok (.iushr, 1) := by decide +kernel
theorem dX5_cornerOf_31 : decode cX5_cornerOf 31 = .ok (.ixor, 1) := by decide +kernel
theorem dX5_cornerOf_32 : decode cX5_cornerOf 32 = .ok (.ldc 76, 2) := by decide +kernel
theorem dX5_cornerOf_34 : decode cX5_cornerOf 34 = .ok (.imul, 1) := by decide +kernel
theorem dX5_cornerOf_35 : decode cX5_cornerOf 35 = .ok (.istore 4, 2) := by decide +kernel
theorem dX5_cornerOf_37 : decode cX5_cornerOf 37 = .ok (.iload 4, 2) := by decide +kernel
theorem dX5_cornerOf_39 : decode cX5_cornerOf 39 = .ok (.iload 4, 2) := by decide +kernel
theorem dX5_cornerOf_41 : decode cX5_cornerOf 41 = .ok (.bipush 15, 2) := by decide +kernel
theorem dX5_cornerOf_43 : decode cX5_cornerOf 43 = .ok (.iushr, 1) := by decide +kernel
theorem dX5_cornerOf_44 : decode cX5_cornerOf 44 = .ok (.ixor, 1) := by decide +kernel
theorem dX5_cornerOf_45 : decode cX5_cornerOf 45 = .ok (.ldc 76, 2) := by decide +kernel
theorem dX5_cornerOf_47 : decode cX5_cornerOf 47 = .ok (.imul, 1) := by decide +kernel
theorem dX5_cornerOf_48 : decode cX5_cornerOf 48 = .ok (.istore 4, 2) := by decide +kernel
theorem dX5_cornerOf_50 : decode cX5_cornerOf 50 = .ok (.iload 4, 2) := by decide +kernel
theorem dX5_cornerOf_52 : decode cX5_cornerOf 52 = .ok (.bipush 16, 2) := by decide +kernel
theorem dX5_cornerOf_54 : decode cX5_cornerOf 54 = .ok (.iushr, 1) := by decide +kernel
theorem dX5_cornerOf_55 : decode cX5_cornerOf 55 = .ok (.sipush 255, 3) := by decide +kernel
theorem dX5_cornerOf_58 : decode cX5_cornerOf 58 = .ok (.iand, 1) := by decide +kernel
theorem dX5_cornerOf_59 : decode cX5_cornerOf 59 = .ok (.ireturn, 1) := by decide +kernel
theorem dX5_addChange_0 : decode cX5_addChange 0 = .ok (.aload_n 0, 1) := by decide +kernel
theorem dX5_addChange_1 : decode cX5_addChange 1 = .ok (.getfield 35, 3) := by decide +kernel
theorem dX5_addChange_4 : decode cX5_addChange 4 = .ok (.aload_n 0, 1) := by decide +kernel
theorem dX5_addChange_5 : decode cX5_addChange 5 = .ok (.getfield 27, 3) := by decide +kernel
theorem dX5_addChange_8 : decode cX5_addChange 8 = .ok (.aload_n 0, 1) := by decide +kernel
theorem dX5_addChange_9 : decode cX5_addChange 9 = .ok (.getfield 21, 3) := by decide +kernel
theorem dX5_addChange_12 : decode cX5_addChange 12 = .ok (.aload_n 0, 1) := by decide +kernel
theorem dX5_addChange_13 : decode cX5_addChange 13 = .ok (.getfield 45, 3) := by decide +kernel
theorem dX5_addChange_16 : decode cX5_addChange 16 = .ok (.iload_n 1, 1) := by decide +kernel
theorem dX5_addChange_17 : decode cX5_addChange 17 = .ok (.invokevirtual 77, 3) := by decide +kernel
theorem dX5_addChange_20 : decode cX5_addChange 20 = .ok (.iadd, 1) := by decide +kernel
theorem dX5_addChange_21 : decode cX5_addChange 21 = .ok (.invokevirtual 57, 3) := by decide +kernel
theorem dX5_addChange_24 : decode cX5_addChange 24 = .ok (.aload_n 0, 1) := by decide +kernel
theorem dX5_addChange_25 : decode cX5_addChange 25 = .ok (.getfield 39, 3) := by decide +kernel
theorem dX5_addChange_28 : decode cX5_addChange 28 = .ok (.aload_n 0, 1) := by decide +kernel
theorem dX5_addChange_29 : decode cX5_addChange 29 = .ok (.getfield 27, 3) := by decide +kernel
theorem dX5_addChange_32 : decode cX5_addChange 32 = .ok (.aload_n 0, 1) := by decide +kernel
theorem dX5_addChange_33 : decode cX5_addChange 33 = .ok (.getfield 24, 3) := by decide +kernel
theorem dX5_addChange_36 : decode cX5_addChange 36 = .ok (.aload_n 0, 1) := by decide +kernel
theorem dX5_addChange_37 : decode cX5_addChange 37 = .ok (.getfield 48, 3) := by decide +kernel
theorem dX5_addChange_40 : decode cX5_addChange 40 = .ok (.iload_n 1, 1) := by decide +kernel
theorem dX5_addChange_41 : decode cX5_addChange 41 = .ok (.invokevirtual 77, 3) := by decide +kernel
theorem dX5_addChange_44 : decode cX5_addChange 44 = .ok (.iadd, 1) := by decide +kernel
theorem dX5_addChange_45 : decode cX5_addChange 45 = .ok (.invokevirtual 57, 3) := by decide +kernel
theorem dX5_addChange_48 : decode cX5_addChange 48 = .ok (.aload_n 0, 1) := by decide +kernel
theorem dX5_addChange_49 : decode cX5_addChange 49 = .ok (.getfield 42, 3) := by decide +kernel
theorem dX5_addChange_52 : decode cX5_addChange 52 = .ok (.aload_n 0, 1) := by decide +kernel
theorem dX5_addChange_53 : decode cX5_addChange 53 = .ok (.getfield 27, 3) := by decide +kernel
theorem dX5_addChange_56 : decode cX5_addChange 56 = .ok (.iload_n 2, 1) := by decide +kernel
theorem dX5_addChange_57 : decode cX5_addChange 57 = .ok (.invokevirtual 57, 3) := by decide +kernel
theorem dX5_addChange_60 : decode cX5_addChange 60 = .ok (.aload_n 0, 1) := by decide +kernel
theorem dX5_addChange_61 : decode cX5_addChange 61 = .ok (.dup, 1) := by decide +kernel
theorem dX5_addChange_62 : decode cX5_addChange 62 = .ok (.getfield 27, 3) := by decide +kernel
theorem dX5_addChange_65 : decode cX5_addChange 65 = .ok (.iconst 1, 1) := by decide +kernel
theorem dX5_addChange_66 : decode cX5_addChange 66 = .ok (.iadd, 1) := by decide +kernel
theorem dX5_addChange_67 : decode cX5_addChange 67 = .ok (.putfield 27, 3) := by decide +kernel
theorem dX5_addChange_70 : decode cX5_addChange 70 = .ok (.return_, 1) := by decide +kernel
theorem dX5_raiseHeights_0 : decode cX5_raiseHeights 0 = .ok (.iconst 0, 1) := by decide +kernel
theorem dX5_raiseHeights_1 : decode cX5_raiseHeights 1 = .ok (.istore_n 1, 1) := by decide +kernel
theorem dX5_raiseHeights_2 : decode cX5_raiseHeights 2 = .ok (.iload_n 1, 1) := by decide +kernel
theorem dX5_raiseHeights_3 : decode cX5_raiseHeights 3 = .ok (.aload_n 0, 1) := by decide +kernel
theorem dX5_raiseHeights_4 : decode cX5_raiseHeights 4 = .ok (.getfield 18, 3) := by decide +kernel
theorem dX5_raiseHeights_7 : decode cX5_raiseHeights 7 = .ok (.if_icmp .ge 25, 3) := by decide +kernel
theorem dX5_raiseHeights_10 : decode cX5_raiseHeights 10 = .ok (.aload_n 0, 1) := by decide +kernel
theorem dX5_raiseHeights_11 : decode cX5_raiseHeights 11 = .ok (.getfield 54, 3) := by decide +kernel
theorem dX5_raiseHeights_14 : decode cX5_raiseHeights 14 = .ok (.iload_n 1, 1) := by decide +kernel
theorem dX5_raiseHeights_15 : decode cX5_raiseHeights 15 = .ok (.aload_n 0, 1) := by decide +kernel
theorem dX5_raiseHeights_16 : decode cX5_raiseHeights 16 = .ok (.getfield 51, 3) := by decide +kernel
theorem dX5_raiseHeights_19 : decode cX5_raiseHeights 19 = .ok (.iload_n 1, 1) := by decide +kernel
theorem dX5_raiseHeights_20 : decode cX5_raiseHeights 20 = .ok (.invokevirtual 77, 3) := by decide +kernel
theorem dX5_raiseHeights_23 : decode cX5_raiseHeights 23 = .ok (.invokevirtual 57, 3) := by decide +kernel
theorem dX5_raiseHeights_26 : decode cX5_raiseHeights 26 = .ok (.iinc 1 1, 3) := by decide +kernel
theorem dX5_raiseHeights_29 : decode cX5_raiseHeights 29 = .ok (.goto (-27), 3) := by decide +kernel
theorem dX5_raiseHeights_32 : decode cX5_raiseHeights 32 = .ok (.iconst 0, 1) := by decide +kernel
theorem dX5_raiseHeights_33 : decode cX5_raiseHeights 33 = .ok (.istore_n 1, 1) := by decide +kernel
theorem dX5_raiseHeights_34 : decode cX5_raiseHeights 34 = .ok (.iload_n 1, 1) := by decide +kernel
theorem dX5_raiseHeights_35 : decode cX5_raiseHeights 35 = .ok (.aload_n 0, 1) := by decide +kernel
theorem dX5_raiseHeights_36 : decode cX5_raiseHeights 36 = .ok (.getfield 27, 3) := by decide +kernel
theorem dX5_raiseHeights_39 : decode cX5_raiseHeights 39 = .ok (.if_icmp .ge 88, 3) := by decide +kernel
theorem dX5_raiseHeights_42 : decode cX5_raiseHeights 42 = .ok (.aload_n 0, 1) := by decide +kernel
theorem dX5_raiseHeights_43 : decode cX5_raiseHeights 43 = .ok (.getfield 35, 3) := by decide +kernel
theorem dX5_raiseHeights_46 : decode cX5_raiseHeights 46 = .ok (.iload_n 1, 1) := by decide +kernel
theorem dX5_raiseHeights_47 : decode cX5_raiseHeights 47 = .ok (.invokevirtual 77, 3) := by decide +kernel
theorem dX5_raiseHeights_50 : decode cX5_raiseHeights 50 = .ok (.aload_n 0, 1) := by decide +kernel
theorem dX5_raiseHeights_51 : decode cX5_raiseHeights 51 = .ok (.getfield 21, 3) := by decide +kernel
theorem dX5_raiseHeights_54 : decode cX5_raiseHeights 54 = .ok (.isub, 1) := by decide +kernel
theorem dX5_raiseHeights_55 : decode cX5_raiseHeights 55 = .ok (.istore_n 2, 1) := by decide +kernel
theorem dX5_raiseHeights_56 : decode cX5_raiseHeights 56 = .ok (.aload_n 0, 1) := by decide +kernel
theorem dX5_raiseHeights_57 : decode cX5_raiseHeights 57 = .ok (.getfield 39, 3) := by decide +kernel
theorem dX5_raiseHeights_60 : decode cX5_raiseHeights 60 = .ok (.iload_n 1, 1) := by decide +kernel
theorem dX5_raiseHeights_61 : decode cX5_raiseHeights 61 = .ok (.invokevirtual 77, 3) := by decide +kernel
theorem dX5_raiseHeights_64 : decode cX5_raiseHeights 64 = .ok (.aload_n 0, 1) := by decide +kernel
theorem dX5_raiseHeights_65 : decode cX5_raiseHeights 65 = .ok (.getfield 24, 3) := by decide +kernel
theorem dX5_raiseHeights_68 : decode cX5_raiseHeights 68 = .ok (.isub, 1) := by decide +kernel
theorem dX5_raiseHeights_69 : decode cX5_raiseHeights 69 = .ok (.istore_n 3, 1) := by decide +kernel
theorem dX5_raiseHeights_70 : decode cX5_raiseHeights 70 = .ok (.iload_n 2, 1) := by decide +kernel
theorem dX5_raiseHeights_71 : decode cX5_raiseHeights 71 = .ok (.iconst 0, 1) := by decide +kernel
theorem dX5_raiseHeights_72 : decode cX5_raiseHeights 72 = .ok (.aload_n 0, 1) := by decide +kernel
theorem dX5_raiseHeights_73 : decode cX5_raiseHeights 73 = .ok (.getfield 15, 3) := by decide +kernel
theorem dX5_raiseHeights_76 : decode cX5_raiseHeights 76 = .ok (.iconst 1, 1) := by decide +kernel
theorem dX5_raiseHeights_77 : decode cX5_raiseHeights 77 = .ok (.isub, 1) := by decide +kernel
theorem dX5_raiseHeights_78 : decode cX5_raiseHeights 78 = .ok (.invokestatic 81, 3) := by decide +kernel
theorem dX5_raiseHeights_81 : decode cX5_raiseHeights 81 = .ok (.ifCond .eq 40, 3) := by decide +kernel
theorem dX5_raiseHeights_84 : decode cX5_raiseHeights 84 = .ok (.iload_n 3, 1) := by decide +kernel
theorem dX5_raiseHeights_85 : decode cX5_raiseHeights 85 = .ok (.iconst 0, 1) := by decide +kernel
theorem dX5_raiseHeights_86 : decode cX5_raiseHeights 86 = .ok (.aload_n 0, 1) := by decide +kernel
theorem dX5_raiseHeights_87 : decode cX5_raiseHeights 87 = .ok (.getfield 15, 3) := by decide +kernel
theorem dX5_raiseHeights_90 : decode cX5_raiseHeights 90 = .ok (.iconst 1, 1) := by decide +kernel
theorem dX5_raiseHeights_91 : decode cX5_raiseHeights 91 = .ok (.isub, 1) := by decide +kernel
theorem dX5_raiseHeights_92 : decode cX5_raiseHeights 92 = .ok (.invokestatic 81, 3) := by decide +kernel
theorem dX5_raiseHeights_95 : decode cX5_raiseHeights 95 = .ok (.ifCond .eq 26, 3) := by decide +kernel
theorem dX5_raiseHeights_98 : decode cX5_raiseHeights 98 = .ok (.aload_n 0, 1) := by decide +kernel
theorem dX5_raiseHeights_99 : decode cX5_raiseHeights 99 = .ok (.getfield 54, 3) := by decide +kernel
theorem dX5_raiseHeights_102 : decode cX5_raiseHeights 102 = .ok (.aload_n 0, 1) := by decide +kernel
theorem dX5_raiseHeights_103 : decode cX5_raiseHeights 103 = .ok (.getfield 15, 3) := by decide +kernel
theorem dX5_raiseHeights_106 : decode cX5_raiseHeights 106 = .ok (.iload_n 3, 1) := by decide +kernel
theorem dX5_raiseHeights_107 : decode cX5_raiseHeights 107 = .ok (.imul, 1) := by decide +kernel
theorem dX5_raiseHeights_108 : decode cX5_raiseHeights 108 = .ok (.iload_n 2, 1) := by decide +kernel
theorem dX5_raiseHeights_109 : decode cX5_raiseHeights 109 = .ok (.iadd, 1) := by decide +kernel
theorem dX5_raiseHeights_110 : decode cX5_raiseHeights 110 = .ok (.aload_n 0, 1) := by decide +kernel
theorem dX5_raiseHeights_111 : decode cX5_raiseHeights 111 = .ok (.getfield 42, 3) := by decide +kernel
theorem dX5_raiseHeights_114 : decode cX5_raiseHeights 114 = .ok (.iload_n 1, 1) := by decide +kernel
theorem dX5_raiseHeights_115 : decode cX5_raiseHeights 115 = .ok (.invokevirtual 77, 3) := by decide +kernel
theorem dX5_raiseHeights_118 : decode cX5_raiseHeights 118 = .ok (.invokevirtual 85, 3) := by decide +kernel
theorem dX5_raiseHeights_121 : decode cX5_raiseHeights 121 = .ok (.iinc 1 1, 3) := by decide +kernel
theorem dX5_raiseHeights_124 : decode cX5_raiseHeights 124 = .ok (.goto (-90), 3) := by decide +kernel
theorem dX5_raiseHeights_127 : decode cX5_raiseHeights 127 = .ok (.iconst 0, 1) := by decide +kernel
theorem dX5_raiseHeights_128 : decode cX5_raiseHeights 128 = .ok (.istore_n 1, 1) := by decide +kernel
theorem dX5_raiseHeights_129 : decode cX5_raiseHeights 129 = .ok (.iload_n 1, 1) := by decide +kernel
theorem dX5_raiseHeights_130 : decode cX5_raiseHeights 130 = .ok (.aload_n 0, 1) := by decide +kernel
theorem dX5_raiseHeights_131 : decode cX5_raiseHeights 131 = .ok (.getfield 18, 3) := by decide +kernel
theorem dX5_raiseHeights_134 : decode cX5_raiseHeights 134 = .ok (.if_icmp .ge 35, 3) := by decide +kernel
theorem dX5_raiseHeights_137 : decode cX5_raiseHeights 137 = .ok (.aload_n 0, 1) := by decide +kernel
theorem dX5_raiseHeights_138 : decode cX5_raiseHeights 138 = .ok (.getfield 54, 3) := by decide +kernel
theorem dX5_raiseHeights_141 : decode cX5_raiseHeights 141 = .ok (.iload_n 1, 1) := by decide +kernel
theorem dX5_raiseHeights_142 : decode cX5_raiseHeights 142 = .ok (.iconst 0, 1) := by decide +kernel
theorem dX5_raiseHeights_143 : decode cX5_raiseHeights 143 = .ok (.aload_n 0, 1) := by decide +kernel
theorem dX5_raiseHeights_144 : decode cX5_raiseHeights 144 = .ok (.getfield 54, 3) := by decide +kernel
theorem dX5_raiseHeights_147 : decode cX5_raiseHeights 147 = .ok (.iload_n 1, 1) := by decide +kernel
theorem dX5_raiseHeights_148 : decode cX5_raiseHeights 148 = .ok (.invokevirtual 77, 3) := by decide +kernel
theorem dX5_raiseHeights_151 : decode cX5_raiseHeights 151 = .ok (.sipush 400, 3) := by decide +kernel
theorem dX5_raiseHeights_154 : decode cX5_raiseHeights 154 = .ok (.invokestatic 88, 3) := by decide +kernel
theorem dX5_raiseHeights_157 : decode cX5_raiseHeights 157 = .ok (.invokestatic 93, 3) := by decide +kernel
theorem dX5_raiseHeights_160 : decode cX5_raiseHeights 160 = .ok (.invokevirtual 57, 3) := by decide +kernel
theorem dX5_raiseHeights_163 : decode cX5_raiseHeights 163 = .ok (.iinc 1 1, 3) := by decide +kernel
theorem dX5_raiseHeights_166 : decode cX5_raiseHeights 166 = .ok (.goto (-37), 3) := by decide +kernel
theorem dX5_raiseHeights_169 : decode cX5_raiseHeights 169 = .ok (.return_, 1) := by decide +kernel
theorem dX5_beside_0 : decode cX5_beside 0 = .ok (.iload_n 2, 1) := by decide +kernel
theorem dX5_beside_1 : decode cX5_beside 1 = .ok (.tableswitch 129 0 3 #[31, 54, 74, 100], 31) := by decide +kernel
theorem dX5_beside_32 : decode cX5_beside 32 = .ok (.aload_n 0, 1) := by decide +kernel
theorem dX5_beside_33 : decode cX5_beside 33 = .ok (.getfield 48, 3) := by decide +kernel
theorem dX5_beside_36 : decode cX5_beside 36 = .ok (.iload_n 1, 1) := by decide +kernel
theorem dX5_beside_37 : decode cX5_beside 37 = .ok (.invokevirtual 77, 3) := by decide +kernel
theorem dX5_beside_40 : decode cX5_beside 40 = .ok (.ifCond .le 12, 3) := by decide +kernel
theorem dX5_beside_43 : decode cX5_beside 43 = .ok (.iload_n 1, 1) := by decide +kernel
theorem dX5_beside_44 : decode cX5_beside 44 = .ok (.aload_n 0, 1) := by decide +kernel
theorem dX5_beside_45 : decode cX5_beside 45 = .ok (.getfield 15, 3) := by decide +kernel
theorem dX5_beside_48 : decode cX5_beside 48 = .ok (.isub, 1) := by decide +kernel
theorem dX5_beside_49 : decode cX5_beside 49 = .ok (.goto 5, 3) := by decide +kernel
theorem dX5_beside_52 : decode cX5_beside 52 = .ok (.bipush (-6), 2) := by decide +kernel
theorem dX5_beside_54 : decode cX5_beside 54 = .ok (.ireturn, 1) := by decide +kernel
theorem dX5_beside_55 : decode cX5_beside 55 = .ok (.aload_n 0, 1) := by decide +kernel
theorem dX5_beside_56 : decode cX5_beside 56 = .ok (.getfield 45, 3) := by decide +kernel
theorem dX5_beside_59 : decode cX5_beside 59 = .ok (.iload_n 1, 1) := by decide +kernel
theorem dX5_beside_60 : decode cX5_beside 60 = .ok (.invokevirtual 77, 3) := by decide +kernel
theorem dX5_beside_63 : decode cX5_beside 63 = .ok (.ifCond .le 9, 3) := by decide +kernel
theorem dX5_beside_66 : decode cX5_beside 66 = .ok (.iload_n 1, 1) := by decide +kernel
theorem dX5_beside_67 : decode cX5_beside 67 = .ok (.iconst 1, 1) := by decide +kernel
theorem dX5_beside_68 : decode cX5_beside 68 = .ok (.isub, 1) := by decide +kernel
theorem dX5_beside_69 : decode cX5_beside 69 = .ok (.goto 5, 3) := by decide +kernel
theorem dX5_beside_72 : decode cX5_beside 72 = .ok (.bipush (-6), 2) := by decide +kernel
theorem dX5_beside_74 : decode cX5_beside 74 = .ok (.ireturn, 1) := by decide +kernel
theorem dX5_beside_75 : decode cX5_beside 75 = .ok (.aload_n 0, 1) := by decide +kernel
theorem dX5_beside_76 : decode cX5_beside 76 = .ok (.getfield 45, 3) := by decide +kernel
theorem dX5_beside_79 : decode cX5_beside 79 = .ok (.iload_n 1, 1) := by decide +kernel
theorem dX5_beside_80 : decode cX5_beside 80 = .ok (.invokevirtual 77, 3) := by decide +kernel
theorem dX5_beside_83 : decode cX5_beside 83 = .ok (.aload_n 0, 1) := by decide +kernel
theorem dX5_beside_84 : decode cX5_beside 84 = .ok (.getfield 15, 3) := by decide +kernel
theorem dX5_beside_87 : decode cX5_beside 87 = .ok (.iconst 1, 1) := by decide +kernel
theorem dX5_beside_88 : decode cX5_beside 88 = .ok (.isub, 1) := by decide +kernel
theorem dX5_beside_89 : decode cX5_beside 89 = .ok (.if_icmp .ge 9, 3) := by decide +kernel
theorem dX5_beside_92 : decode cX5_beside 92 = .ok (.iload_n 1, 1) := by decide +kernel
theorem dX5_beside_93 : decode cX5_beside 93 = .ok (.iconst 1, 1) := by decide +kernel
theorem dX5_beside_94 : decode cX5_beside 94 = .ok (.iadd, 1) := by decide +kernel
theorem dX5_beside_95 : decode cX5_beside 95 = .ok (.goto 5, 3) := by decide +kernel
theorem dX5_beside_98 : decode cX5_beside 98 = .ok (.bipush (-6), 2) := by decide +kernel
theorem dX5_beside_100 : decode cX5_beside 100 = .ok (.ireturn, 1) := by decide +kernel
theorem dX5_beside_101 : decode cX5_beside 101 = .ok (.aload_n 0, 1) := by decide +kernel
theorem dX5_beside_102 : decode cX5_beside 102 = .ok (.getfield 48, 3) := by decide +kernel
theorem dX5_beside_105 : decode cX5_beside 105 = .ok (.iload_n 1, 1) := by decide +kernel
theorem dX5_beside_106 : decode cX5_beside 106 = .ok (.invokevirtual 77, 3) := by decide +kernel
theorem dX5_beside_109 : decode cX5_beside 109 = .ok (.aload_n 0, 1) := by decide +kernel
theorem dX5_beside_110 : decode cX5_beside 110 = .ok (.getfield 15, 3) := by decide +kernel
theorem dX5_beside_113 : decode cX5_beside 113 = .ok (.iconst 1, 1) := by decide +kernel
theorem dX5_beside_114 : decode cX5_beside 114 = .ok (.isub, 1) := by decide +kernel
theorem dX5_beside_115 : decode cX5_beside 115 = .ok (.if_icmp .ge 12, 3) := by decide +kernel
theorem dX5_beside_118 : decode cX5_beside 118 = .ok (.iload_n 1, 1) := by decide +kernel
theorem dX5_beside_119 : decode cX5_beside 119 = .ok (.aload_n 0, 1) := by decide +kernel
theorem dX5_beside_120 : decode cX5_beside 120 = .ok (.getfield 15, 3) := by decide +kernel
theorem dX5_beside_123 : decode cX5_beside 123 = .ok (.iadd, 1) := by decide +kernel
theorem dX5_beside_124 : decode cX5_beside 124 = .ok (.goto 5, 3) := by decide +kernel
theorem dX5_beside_127 : decode cX5_beside 127 = .ok (.bipush (-6), 2) := by decide +kernel
theorem dX5_beside_129 : decode cX5_beside 129 = .ok (.ireturn, 1) := by decide +kernel
theorem dX5_beside_130 : decode cX5_beside 130 = .ok (.bipush (-6), 2) := by decide +kernel
theorem dX5_beside_132 : decode cX5_beside 132 = .ok (.ireturn, 1) := by decide +kernel
theorem dX5_isRim_0 : decode cX5_isRim 0 = .ok (.aload_n 0, 1) := by decide +kernel
theorem dX5_isRim_1 : decode cX5_isRim 1 = .ok (.getfield 45, 3) := by decide +kernel
theorem dX5_isRim_4 : decode cX5_isRim 4 = .ok (.iload_n 1, 1) := by decide +kernel
theorem dX5_isRim_5 : decode cX5_isRim 5 = .ok (.invokevirtual 77, 3) := by decide +kernel
theorem dX5_isRim_8 : decode cX5_isRim 8 = .ok (.istore_n 2, 1) := by decide +kernel
theorem dX5_isRim_9 : decode cX5_isRim 9 = .ok (.aload_n 0, 1) := by decide +kernel
theorem dX5_isRim_10 : decode cX5_isRim 10 = .ok (.getfield 48, 3) := by decide +kernel
theorem dX5_isRim_13 : decode cX5_isRim 13 = .ok (.iload_n 1, 1) := by decide +kernel
theorem dX5_isRim_14 : decode cX5_isRim 14 = .ok (.invokevirtual 77, 3) := by decide +kernel
theorem dX5_isRim_17 : decode cX5_isRim 17 = .ok (.istore_n 3, 1) := by decide +kernel
theorem dX5_isRim_18 : decode cX5_isRim 18 = .ok (.iload_n 2, 1) := by decide +kernel
theorem dX5_isRim_19 : decode cX5_isRim 19 = .ok (.ifCond .eq 27, 3) := by decide +kernel
theorem dX5_isRim_22 : decode cX5_isRim 22 = .ok (.iload_n 3, 1) := by decide +kernel
theorem dX5_isRim_23 : decode cX5_isRim 23 = .ok (.ifCond .eq 23, 3) := by decide +kernel
theorem dX5_isRim_26 : decode cX5_isRim 26 = .ok (.iload_n 2, 1) := by decide +kernel
theorem dX5_isRim_27 : decode cX5_isRim 27 = .ok (.aload_n 0, 1) := by decide +kernel
theorem dX5_isRim_28 : decode cX5_isRim 28 = .ok (.getfield 15, 3) := by decide +kernel
theorem dX5_isRim_31 : decode cX5_isRim 31 = .ok (.iconst 1, 1) := by decide +kernel
theorem dX5_isRim_32 : decode cX5_isRim 32 = .ok (.isub, 1) := by decide +kernel
theorem dX5_isRim_33 : decode cX5_isRim 33 = .ok (.if_icmp .eq 13, 3) := by decide +kernel
theorem dX5_isRim_36 : decode cX5_isRim 36 = .ok (.iload_n 3, 1) := by decide +kernel
theorem dX5_isRim_37 : decode cX5_isRim 37 = .ok (.aload_n 0, 1) := by decide +kernel
theorem dX5_isRim_38 : decode cX5_isRim 38 = .ok (.getfield 15, 3) := by decide +kernel
theorem dX5_isRim_41 : decode cX5_isRim 41 = .ok (.iconst 1, 1) := by decide +kernel
theorem dX5_isRim_42 : decode cX5_isRim 42 = .ok (.isub, 1) := by decide +kernel
theorem dX5_isRim_43 : decode cX5_isRim 43 = .ok (.if_icmp .ne 7, 3) := by decide +kernel
theorem dX5_isRim_46 : decode cX5_isRim 46 = .ok (.iconst 1, 1) := by decide +kernel
theorem dX5_isRim_47 : decode cX5_isRim 47 = .ok (.goto 4, 3) := by decide +kernel
theorem dX5_isRim_50 : decode cX5_isRim 50 = .ok (.iconst 0, 1) := by decide +kernel
theorem dX5_isRim_51 : decode cX5_isRim 51 = .ok (.ireturn, 1) := by decide +kernel
theorem dX5_rowsAndColumnsBetween_0 : decode cX5_rowsAndColumnsBetween 0 = .ok (.aload_n 0, 1) := by decide +kernel
theorem dX5_rowsAndColumnsBetween_1 : decode cX5_rowsAndColumnsBetween 1 = .ok (.getfield 45, 3) := by decide +kernel
theorem dX5_rowsAndColumnsBetween_4 : decode cX5_rowsAndColumnsBetween 4 = .ok (.iload_n 1, 1) := by decide +kernel
theorem dX5_rowsAndColumnsBetween_5 : decode cX5_rowsAndColumnsBetween 5 = .ok (.invokevirtual 77, 3) := by decide +kernel
theorem dX5_rowsAndColumnsBetween_8 : decode cX5_rowsAndColumnsBetween 8 = .ok (.aload_n 0, 1) := by decide +kernel
theorem dX5_rowsAndColumnsBetween_9 : decode cX5_rowsAndColumnsBetween 9 = .ok (.getfield 45, 3) := by decide +kernel
theorem dX5_rowsAndColumnsBetween_12 : decode cX5_rowsAndColumnsBetween 12 = .ok (.iload_n 2, 1) := by decide +kernel
theorem dX5_rowsAndColumnsBetween_13 : decode cX5_rowsAndColumnsBetween 13 = .ok (.invokevirtual 77, 3) := by decide +kernel
theorem dX5_rowsAndColumnsBetween_16 : decode cX5_rowsAndColumnsBetween 16 = .ok (.isub, 1) := by decide +kernel
theorem dX5_rowsAndColumnsBetween_17 : decode cX5_rowsAndColumnsBetween 17 = .ok (.invokestatic 96, 3) := by decide +kernel
theorem dX5_rowsAndColumnsBetween_20 : decode cX5_rowsAndColumnsBetween 20 = .ok (.aload_n 0, 1) := by decide +kernel
theorem dX5_rowsAndColumnsBetween_21 : decode cX5_rowsAndColumnsBetween 21 = .ok (.getfield 48, 3) := by decide +kernel
theorem dX5_rowsAndColumnsBetween_24 : decode cX5_rowsAndColumnsBetween 24 = .ok (.iload_n 1, 1) := by decide +kernel
theorem dX5_rowsAndColumnsBetween_25 : decode cX5_rowsAndColumnsBetween 25 = .ok (.invokevirtual 77, 3) := by decide +kernel
theorem dX5_rowsAndColumnsBetween_28 : decode cX5_rowsAndColumnsBetween 28 = .ok (.aload_n 0, 1) := by decide +kernel
theorem dX5_rowsAndColumnsBetween_29 : decode cX5_rowsAndColumnsBetween 29 = .ok (.getfield 48, 3) := by decide +kernel
theorem dX5_rowsAndColumnsBetween_32 : decode cX5_rowsAndColumnsBetween 32 = .ok (.iload_n 2, 1) := by decide +kernel
theorem dX5_rowsAndColumnsBetween_33 : decode cX5_rowsAndColumnsBetween 33 = .ok (.invokevirtual 77, 3) := by decide +kernel
theorem dX5_rowsAndColumnsBetween_36 : decode cX5_rowsAndColumnsBetween 36 = .ok (.isub, 1) := by decide +kernel
theorem dX5_rowsAndColumnsBetween_37 : decode cX5_rowsAndColumnsBetween 37 = .ok (.invokestatic 96, 3) := by decide +kernel
theorem dX5_rowsAndColumnsBetween_40 : decode cX5_rowsAndColumnsBetween 40 = .ok (.iadd, 1) := by decide +kernel
theorem dX5_rowsAndColumnsBetween_41 : decode cX5_rowsAndColumnsBetween 41 = .ok (.ireturn, 1) := by decide +kernel
theorem dX6_init_0 : decode cX6_init 0 = .ok (.aload_n 0, 1) := by decide +kernel
theorem dX6_init_1 : decode cX6_init 1 = .ok (.invokespecial 3, 3) := by decide +kernel
theorem dX6_init_4 : decode cX6_init 4 = .ok (.aload_n 0, 1) := by decide +kernel
theorem dX6_init_5 : decode cX6_init 5 = .ok (.new 9, 3) := by decide +kernel
theorem dX6_init_8 : decode cX6_init 8 = .ok (.dup, 1) := by decide +kernel
theorem dX6_init_9 : decode cX6_init 9 = .ok (.sipush 576, 3) := by decide +kernel
theorem dX6_init_12 : decode cX6_init 12 = .ok (.invokespecial 11, 3) := by decide +kernel
theorem dX6_init_15 : decode cX6_init 15 = .ok (.putfield 14, 3) := by decide +kernel
theorem dX6_init_18 : decode cX6_init 18 = .ok (.aload_n 0, 1) := by decide +kernel
theorem dX6_init_19 : decode cX6_init 19 = .ok (.new 9, 3) := by decide +kernel
theorem dX6_init_22 : decode cX6_init 22 = .ok (.dup, 1) := by decide +kernel
theorem dX6_init_23 : decode cX6_init 23 = .ok (.sipush 576, 3) := by decide +kernel
theorem dX6_init_26 : decode cX6_init 26 = .ok (.invokespecial 11, 3) := by decide +kernel
theorem dX6_init_29 : decode cX6_init 29 = .ok (.putfield 20, 3) := by decide +kernel
theorem dX6_init_32 : decode cX6_init 32 = .ok (.aload_n 0, 1) := by decide +kernel
theorem dX6_init_33 : decode cX6_init 33 = .ok (.new 9, 3) := by decide +kernel
theorem dX6_init_36 : decode cX6_init 36 = .ok (.dup, 1) := by decide +kernel
theorem dX6_init_37 : decode cX6_init 37 = .ok (.sipush 576, 3) := by decide +kernel
theorem dX6_init_40 : decode cX6_init 40 = .ok (.invokespecial 11, 3) := by decide +kernel
theorem dX6_init_43 : decode cX6_init 43 = .ok (.putfield 23, 3) := by decide +kernel
theorem dX6_init_46 : decode cX6_init 46 = .ok (.aload_n 0, 1) := by decide +kernel
theorem dX6_init_47 : decode cX6_init 47 = .ok (.new 9, 3) := by decide +kernel
theorem dX6_init_50 : decode cX6_init 50 = .ok (.dup, 1) := by decide +kernel
theorem dX6_init_51 : decode cX6_init 51 = .ok (.sipush 576, 3) := by decide +kernel
theorem dX6_init_54 : decode cX6_init 54 = .ok (.invokespecial 11, 3) := by decide +kernel
theorem dX6_init_57 : decode cX6_init 57 = .ok (.putfield 26, 3) := by decide +kernel
theorem dX6_init_60 : decode cX6_init 60 = .ok (.aload_n 0, 1) := by decide +kernel
theorem dX6_init_61 : decode cX6_init 61 = .ok (.new 9, 3) := by decide +kernel
theorem dX6_init_64 : decode cX6_init 64 = .ok (.dup, 1) := by decide +kernel
theorem dX6_init_65 : decode cX6_init 65 = .ok (.sipush 576, 3) := by decide +kernel
theorem dX6_init_68 : decode cX6_init 68 = .ok (.invokespecial 11, 3) := by decide +kernel
theorem dX6_init_71 : decode cX6_init 71 = .ok (.putfield 29, 3) := by decide +kernel
theorem dX6_init_74 : decode cX6_init 74 = .ok (.aload_n 0, 1) := by decide +kernel
theorem dX6_init_75 : decode cX6_init 75 = .ok (.new 9, 3) := by decide +kernel
theorem dX6_init_78 : decode cX6_init 78 = .ok (.dup, 1) := by decide +kernel
theorem dX6_init_79 : decode cX6_init 79 = .ok (.sipush 576, 3) := by decide +kernel
theorem dX6_init_82 : decode cX6_init 82 = .ok (.invokespecial 11, 3) := by decide +kernel
theorem dX6_init_85 : decode cX6_init 85 = .ok (.putfield 32, 3) := by decide +kernel
theorem dX6_init_88 : decode cX6_init 88 = .ok (.aload_n 0, 1) := by decide +kernel
theorem dX6_init_89 : decode cX6_init 89 = .ok (.new 9, 3) := by decide +kernel
theorem dX6_init_92 : decode cX6_init 92 = .ok (.dup, 1) := by decide +kernel
theorem dX6_init_93 : decode cX6_init 93 = .ok (.sipush 576, 3) := by decide +kernel
theorem dX6_init_96 : decode cX6_init 96 = .ok (.invokespecial 11, 3) := by decide +kernel
theorem dX6_init_99 : decode cX6_init 99 = .ok (.putfield 35, 3) := by decide +kernel
theorem dX6_init_102 : decode cX6_init 102 = .ok (.aload_n 0, 1) := by decide +kernel
theorem dX6_init_103 : decode cX6_init 103 = .ok (.new 9, 3) := by decide +kernel
theorem dX6_init_106 : decode cX6_init 106 = .ok (.dup, 1) := by decide +kernel
theorem dX6_init_107 : decode cX6_init 107 = .ok (.sipush 576, 3) := by decide +kernel
theorem dX6_init_110 : decode cX6_init 110 = .ok (.invokespecial 11, 3) := by decide +kernel
theorem dX6_init_113 : decode cX6_init 113 = .ok (.putfield 38, 3) := by decide +kernel
theorem dX6_init_116 : decode cX6_init 116 = .ok (.aload_n 0, 1) := by decide +kernel
theorem dX6_init_117 : decode cX6_init 117 = .ok (.iconst 0, 1) := by decide +kernel
theorem dX6_init_118 : decode cX6_init 118 = .ok (.putfield 41, 3) := by decide +kernel
theorem dX6_init_121 : decode cX6_init 121 = .ok (.return_, 1) := by decide +kernel
theorem dX6_run_0 : decode cX6_run 0 = .ok (.aload_n 0, 1) := by decide +kernel
theorem dX6_run_1 : decode cX6_run 1 = .ok (.iconst 0, 1) := by decide +kernel
theorem dX6_run_2 : decode cX6_run 2 = .ok (.putfield 41, 3) := by decide +kernel
theorem dX6_run_5 : decode cX6_run 5 = .ok (.aload_n 2, 1) := by decide +kernel
theorem dX6_run_6 : decode cX6_run 6 = .ok (.invokevirtual 45, 3) := by decide +kernel
theorem dX6_run_9 : decode cX6_run 9 = .ok (.aload_n 0, 1) := by decide +kernel
theorem dX6_run_10 : decode cX6_run 10 = .ok (.getfield 29, 3) := by decide +kernel
theorem dX6_run_13 : decode cX6_run 13 = .ok (.bipush (-6), 2) := by decide +kernel
theorem dX6_run_15 : decode cX6_run 15 = .ok (.invokevirtual 50, 3) := by decide +kernel
theorem dX6_run_18 : decode cX6_run 18 = .ok (.aload_n 0, 1) := by decide +kernel
theorem dX6_run_19 : decode cX6_run 19 = .ok (.getfield 35, 3) := by decide +kernel
theorem dX6_run_22 : decode cX6_run 22 = .ok (.ldc 53, 2) := by decide +kernel
theorem dX6_run_24 : decode cX6_run 24 = .ok (.invokevirtual 50, 3) := by decide +kernel
theorem dX6_run_27 : decode cX6_run 27 = .ok (.aload_n 0, 1) := by decide +kernel
theorem dX6_run_28 : decode cX6_run 28 = .ok (.aload_n 1, 1) := by decide +kernel
theorem dX6_run_29 : decode cX6_run 29 = .ok (.aload_n 2, 1) := by decide +kernel
theorem dX6_run_30 : decode cX6_run 30 = .ok (.iload_n 3, 1) := by decide +kernel
theorem dX6_run_31 : decode cX6_run 31 = .ok (.invokevirtual 54, 3) := by decide +kernel
theorem dX6_run_34 : decode cX6_run 34 = .ok (.aload_n 0, 1) := by decide +kernel
theorem dX6_run_35 : decode cX6_run 35 = .ok (.aload_n 1, 1) := by decide +kernel
theorem dX6_run_36 : decode cX6_run 36 = .ok (.aload_n 2, 1) := by decide +kernel
theorem dX6_run_37 : decode cX6_run 37 = .ok (.invokevirtual 58, 3) := by decide +kernel
theorem dX6_run_40 : decode cX6_run 40 = .ok (.aload_n 0, 1) := by decide +kernel
theorem dX6_run_41 : decode cX6_run 41 = .ok (.aload_n 1, 1) := by decide +kernel
theorem dX6_run_42 : decode cX6_run 42 = .ok (.invokevirtual 62, 3) := by decide +kernel
theorem dX6_run_45 : decode cX6_run 45 = .ok (.iconst 0, 1) := by decide +kernel
theorem dX6_run_46 : decode cX6_run 46 = .ok (.istore 5, 2) := by decide +kernel
theorem dX6_run_48 : decode cX6_run 48 = .ok (.iload 5, 2) := by decide +kernel
theorem dX6_run_50 : decode cX6_run 50 = .ok (.aload_n 1, 1) := by decide +kernel
theorem dX6_run_51 : decode cX6_run 51 = .ok (.getfield 66, 3) := by decide +kernel
theorem dX6_run_54 : decode cX6_run 54 = .ok (.if_icmp .ge 36, 3) := by decide +kernel
theorem dX6_run_57 : decode cX6_run 57 = .ok (.aload_n 0, 1) := by decide +kernel
theorem dX6_run_58 : decode cX6_run 58 = .ok (.getfield 38, 3) := by decide +kernel
theorem dX6_run_61 : decode cX6_run 61 = .ok (.iload 5, 2) := by decide +kernel
theorem dX6_run_63 : decode cX6_run 63 = .ok (.aload_n 0, 1) := by decide +kernel
theorem dX6_run_64 : decode cX6_run 64 = .ok (.aload_n 1, 1) := by decide +kernel
theorem dX6_run_65 : decode cX6_run 65 = .ok (.getfield 71, 3) := by decide +kernel
theorem dX6_run_68 : decode cX6_run 68 = .ok (.iload 5, 2) := by decide +kernel
theorem dX6_run_70 : decode cX6_run 70 = .ok (.invokevirtual 74, 3) := by decide +kernel
theorem dX6_run_73 : decode cX6_run 73 = .ok (.iload 5, 2) := by decide +kernel
theorem dX6_run_75 : decode cX6_run 75 = .ok (.iload_n 3, 1) := by decide +kernel
theorem dX6_run_76 : decode cX6_run 76 = .ok (.iload 4, 2) := by decide +kernel
theorem dX6_run_78 : decode cX6_run 78 = .ok (.invokevirtual 78, 3) := by decide +kernel
theorem dX6_run_81 : decode cX6_run 81 = .ok (.invokevirtual 82, 3) := by decide +kernel
theorem dX6_run_84 : decode cX6_run 84 = .ok (.iinc 5 1, 3) := by decide +kernel
theorem dX6_run_87 : decode cX6_run 87 = .ok (.goto (-39), 3) := by decide +kernel
theorem dX6_run_90 : decode cX6_run 90 = .ok (.return_, 1) := by decide +kernel
theorem dX6_takeOutlets_0 : decode cX6_takeOutlets 0 = .ok (.iconst 0, 1) := by decide +kernel
theorem dX6_takeOutlets_1 : decode cX6_takeOutlets 1 = .ok (.istore 4, 2) := by decide +kernel
theorem dX6_takeOutlets_3 : decode cX6_takeOutlets 3 = .ok (.iload 4, 2) := by decide +kernel
theorem dX6_takeOutlets_5 : decode cX6_takeOutlets 5 = .ok (.aload_n 1, 1) := by decide +kernel
theorem dX6_takeOutlets_6 : decode cX6_takeOutlets 6 = .ok (.getfield 66, 3) := by decide +kernel
theorem dX6_takeOutlets_9 : decode cX6_takeOutlets 9 = .ok (.if_icmp .ge 86, 3) := by decide +kernel
theorem dX6_takeOutlets_12 : decode cX6_takeOutlets 12 = .ok (.aload_n 1, 1) := by decide +kernel
theorem dX6_takeOutlets_13 : decode cX6_takeOutlets 13 = .ok (.getfield 71, 3) := by decide +kernel
theorem dX6_takeOutlets_16 : decode cX6_takeOutlets 16 = .ok (.iload 4, 2) := by decide +kernel
theorem dX6_takeOutlets_18 : decode cX6_takeOutlets 18 = .ok (.invokevirtual 74, 3) := by decide +kernel
theorem dX6_takeOutlets_21 : decode cX6_takeOutlets 21 = .ok (.istore 5, 2) := by decide +kernel
theorem dX6_takeOutlets_23 : decode cX6_takeOutlets 23 = .ok (.iload 5, 2) := by decide +kernel
theorem dX6_takeOutlets_25 : decode cX6_takeOutlets 25 = .ok (.iload_n 3, 1) := by decide +kernel
theorem dX6_takeOutlets_26 : decode cX6_takeOutlets 26 = .ok (.if_icmp .lt 12, 3) := by decide +kernel
theorem dX6_takeOutlets_29 : decode cX6_takeOutlets 29 = .ok (.aload_n 1, 1) := by decide +kernel
theorem dX6_takeOutlets_30 : decode cX6_takeOutlets 30 = .ok (.iload 4, 2) := by decide +kernel
theorem dX6_takeOutlets_32 : decode cX6_takeOutlets 32 = .ok (.invokevirtual 86, 3) := by decide +kernel
theorem dX6_takeOutlets_35 : decode cX6_takeOutlets 35 = .ok (.ifCond .eq 54, 3) := by decide +kernel
theorem dX6_takeOutlets_38 : decode cX6_takeOutlets 38 = .ok (.aload_n 0, 1) := by decide +kernel
theorem dX6_takeOutlets_39 : decode cX6_takeOutlets 39 = .ok (.getfield 14, 3) := by decide +kernel
theorem dX6_takeOutlets_42 : decode cX6_takeOutlets 42 = .ok (.iload 4, 2) := by decide +kernel
theorem dX6_takeOutlets_44 : decode cX6_takeOutlets 44 = .ok (.iload 5, 2) := by decide +kernel
theorem dX6_takeOutlets_46 : decode cX6_takeOutlets 46 = .ok (.iload_n 3, 1) := by decide +kernel
theorem dX6_takeOutlets_47 : decode cX6_takeOutlets 47 = .ok (.if_icmp .ge 7, 3) := by decide +kernel
theorem dX6_takeOutlets_50 : decode cX6_takeOutlets 50 = .ok (.iload_n 3, 1) := by decide +kernel
theorem dX6_takeOutlets_51 : decode cX6_takeOutlets 51 = .ok (.goto 5, 3) := by decide +kernel
theorem dX6_takeOutlets_54 : decode cX6_takeOutlets 54 = .ok (.iload 5, 2) := by decide +kernel
theorem dX6_takeOutlets_56 : decode cX6_takeOutlets 56 = .ok (.invokevirtual 82, 3) := by decide +kernel
theorem dX6_takeOutlets_59 : decode cX6_takeOutlets 59 = .ok (.aload_n 0, 1) := by decide +kernel
theorem dX6_takeOutlets_60 : decode cX6_takeOutlets 60 = .ok (.getfield 20, 3) := by decide +kernel
theorem dX6_takeOutlets_63 : decode cX6_takeOutlets 63 = .ok (.iload 4, 2) := by decide +kernel
theorem dX6_takeOutlets_65 : decode cX6_takeOutlets 65 = .ok (.bipush (-6), 2) := by decide +kernel
theorem dX6_takeOutlets_67 : decode cX6_takeOutlets 67 = .ok (.invokevirtual 82, 3) := by decide +kernel
theorem dX6_takeOutlets_70 : decode cX6_takeOutlets 70 = .ok (.aload_n 0, 1) := by decide +kernel
theorem dX6_takeOutlets_71 : decode cX6_takeOutlets 71 = .ok (.getfield 26, 3) := by decide +kernel
theorem dX6_takeOutlets_74 : decode cX6_takeOutlets 74 = .ok (.iload 4, 2) := by decide +kernel
theorem dX6_takeOutlets_76 : decode cX6_takeOutlets 76 = .ok (.iload 4, 2) := by decide +kernel
theorem dX6_takeOutlets_78 : decode cX6_takeOutlets 78 = .ok (.invokevirtual 82, 3) := by decide +kernel
theorem dX6_takeOutlets_81 : decode cX6_takeOutlets 81 = .ok (.aload_n 0, 1) := by decide +kernel
theorem dX6_takeOutlets_82 : decode cX6_takeOutlets 82 = .ok (.aload_n 1, 1) := by decide +kernel
theorem dX6_takeOutlets_83 : decode cX6_takeOutlets 83 = .ok (.aload_n 2, 1) := by decide +kernel
theorem dX6_takeOutlets_84 : decode cX6_takeOutlets 84 = .ok (.iload 4, 2) := by decide +kernel
theorem dX6_takeOutlets_86 : decode cX6_takeOutlets 86 = .ok (.invokevirtual 90, 3) := by decide +kernel
theorem dX6_takeOutlets_89 : decode cX6_takeOutlets 89 = .ok (.iinc 4 1, 3) := by decide +kernel
theorem dX6_takeOutlets_92 : decode cX6_takeOutlets 92 = .ok (.goto (-89), 3) := by decide +kernel
theorem dX6_takeOutlets_95 : decode cX6_takeOutlets 95 = .ok (.return_, 1) := by decide +kernel
theorem dX6_takeOthers_0 : decode cX6_takeOthers 0 = .ok (.iconst 0, 1) := by decide +kernel
theorem dX6_takeOthers_1 : decode cX6_takeOthers 1 = .ok (.istore_n 3, 1) := by decide +kernel
theorem dX6_takeOthers_2 : decode cX6_takeOthers 2 = .ok (.iload_n 3, 1) := by decide +kernel
theorem dX6_takeOthers_3 : decode cX6_takeOthers 3 = .ok (.sipush 2308, 3) := by decide +kernel
theorem dX6_takeOthers_6 : decode cX6_takeOthers 6 = .ok (.if_icmp .ge 95, 3) := by decide +kernel
theorem dX6_takeOthers_9 : decode cX6_takeOthers 9 = .ok (.aload_n 2, 1) := by decide +kernel
theorem dX6_takeOthers_10 : decode cX6_takeOthers 10 = .ok (.invokevirtual 93, 3) := by decide +kernel
theorem dX6_takeOthers_13 : decode cX6_takeOthers 13 = .ok (.ifCond .eq 88, 3) := by decide +kernel
theorem dX6_takeOthers_16 : decode cX6_takeOthers 16 = .ok (.aload_n 2, 1) := by decide +kernel
theorem dX6_takeOthers_17 : decode cX6_takeOthers 17 = .ok (.invokevirtual 97, 3) := by decide +kernel
theorem dX6_takeOthers_20 : decode cX6_takeOthers 20 = .ok (.istore 4, 2) := by decide +kernel
theorem dX6_takeOthers_22 : decode cX6_takeOthers 22 = .ok (.aload_n 0, 1) := by decide +kernel
theorem dX6_takeOthers_23 : decode cX6_takeOthers 23 = .ok (.getfield 29, 3) := by decide +kernel
theorem dX6_takeOthers_26 : decode cX6_takeOthers 26 = .ok (.iload 4, 2) := by decide +kernel
theorem dX6_takeOthers_28 : decode cX6_takeOthers 28 = .ok (.invokevirtual 74, 3) := by decide +kernel
theorem dX6_takeOthers_31 : decode cX6_takeOthers 31 = .ok (.bipush (-6), 2) := by decide +kernel
theorem dX6_takeOthers_33 : decode cX6_takeOthers 33 = .ok (.if_icmp .ne 62, 3) := by decide +kernel
theorem dX6_takeOthers_36 : decode cX6_takeOthers 36 = .ok (.aload_n 0, 1) := by decide +kernel
theorem dX6_takeOthers_37 : decode cX6_takeOthers 37 = .ok (.getfield 14, 3) := by decide +kernel
theorem dX6_takeOthers_40 : decode cX6_takeOthers 40 = .ok (.iload 4, 2) := by decide +kernel
theorem dX6_takeOthers_42 : decode cX6_takeOthers 42 = .ok (.aload_n 2, 1) := by decide +kernel
theorem dX6_takeOthers_43 : decode cX6_takeOthers 43 = .ok (.invokevirtual 101, 3) := by decide +kernel
theorem dX6_takeOthers_46 : decode cX6_takeOthers 46 = .ok (.invokevirtual 82, 3) := by decide +kernel
theorem dX6_takeOthers_49 : decode cX6_takeOthers 49 = .ok (.aload_n 0, 1) := by decide +kernel
theorem dX6_takeOthers_50 : decode cX6_takeOthers 50 = .ok (.aload_n 1, 1) := by decide +kernel
theorem dX6_takeOthers_51 : decode cX6_takeOthers 51 = .ok (.iload 4, 2) := by decide +kernel
theorem dX6_takeOthers_53 : decode cX6_takeOthers 53 = .ok (.invokevirtual 104, 3) := by decide +kernel
theorem dX6_takeOthers_56 : decode cX6_takeOthers 56 = .ok (.istore 5, 2) := by decide +kernel
theorem dX6_takeOthers_58 : decode cX6_takeOthers 58 = .ok (.aload_n 0, 1) := by decide +kernel
theorem dX6_takeOthers_59 : decode cX6_takeOthers 59 = .ok (.getfield 20, 3) := by decide +kernel
theorem dX6_takeOthers_62 : decode cX6_takeOthers 62 = .ok (.iload 4, 2) := by decide +kernel
theorem dX6_takeOthers_64 : decode cX6_takeOthers 64 = .ok (.iload 5, 2) := by decide +kernel
theorem dX6_takeOthers_66 : decode cX6_takeOthers 66 = .ok (.invokevirtual 82, 3) := by decide +kernel
theorem dX6_takeOthers_69 : decode cX6_takeOthers 69 = .ok (.aload_n 0, 1) := by decide +kernel
theorem dX6_takeOthers_70 : decode cX6_takeOthers 70 = .ok (.getfield 26, 3) := by decide +kernel
theorem dX6_takeOthers_73 : decode cX6_takeOthers 73 = .ok (.iload 4, 2) := by decide +kernel
theorem dX6_takeOthers_75 : decode cX6_takeOthers 75 = .ok (.aload_n 0, 1) := by decide +kernel
theorem dX6_takeOthers_76 : decode cX6_takeOthers 76 = .ok (.getfield 26, 3) := by decide +kernel
theorem dX6_takeOthers_79 : decode cX6_takeOthers 79 = .ok (.iload 5, 2) := by decide +kernel
theorem dX6_takeOthers_81 : decode cX6_takeOthers 81 = .ok (.invokevirtual 74, 3) := by decide +kernel
theorem dX6_takeOthers_84 : decode cX6_takeOthers 84 = .ok (.invokevirtual 82, 3) := by decide +kernel
theorem dX6_takeOthers_87 : decode cX6_takeOthers 87 = .ok (.aload_n 0, 1) := by decide +kernel
theorem dX6_takeOthers_88 : decode cX6_takeOthers 88 = .ok (.aload_n 1, 1) := by decide +kernel
theorem dX6_takeOthers_89 : decode cX6_takeOthers 89 = .ok (.aload_n 2, 1) := by decide +kernel
theorem dX6_takeOthers_90 : decode cX6_takeOthers 90 = .ok (.iload 4, 2) := by decide +kernel
theorem dX6_takeOthers_92 : decode cX6_takeOthers 92 = .ok (.invokevirtual 90, 3) := by decide +kernel
theorem dX6_takeOthers_95 : decode cX6_takeOthers 95 = .ok (.iinc 3 1, 3) := by decide +kernel
theorem dX6_takeOthers_98 : decode cX6_takeOthers 98 = .ok (.goto (-96), 3) := by decide +kernel
theorem dX6_takeOthers_101 : decode cX6_takeOthers 101 = .ok (.return_, 1) := by decide +kernel
theorem dX6_take_0 : decode cX6_take 0 = .ok (.aload_n 0, 1) := by decide +kernel
theorem dX6_take_1 : decode cX6_take 1 = .ok (.getfield 29, 3) := by decide +kernel
theorem dX6_take_4 : decode cX6_take 4 = .ok (.iload_n 3, 1) := by decide +kernel
theorem dX6_take_5 : decode cX6_take 5 = .ok (.aload_n 0, 1) := by decide +kernel
theorem dX6_take_6 : decode cX6_take 6 = .ok (.getfield 41, 3) := by decide +kernel
theorem dX6_take_9 : decode cX6_take 9 = .ok (.invokevirtual 82, 3) := by decide +kernel
theorem dX6_take_12 : decode cX6_take 12 = .ok (.aload_n 0, 1) := by decide +kernel
theorem dX6_take_13 : decode cX6_take 13 = .ok (.getfield 32, 3) := by decide +kernel
theorem dX6_take_16 : decode cX6_take 16 = .ok (.aload_n 0, 1) := by decide +kernel
theorem dX6_take_17 : decode cX6_take 17 = .ok (.getfield 41, 3) := by decide +kernel
theorem dX6_take_20 : decode cX6_take 20 = .ok (.iload_n 3, 1) := by decide +kernel
theorem dX6_take_21 : decode cX6_take 21 = .ok (.invokevirtual 82, 3) := by decide +kernel
theorem dX6_take_24 : decode cX6_take 24 = .ok (.aload_n 0, 1) := by decide +kernel
theorem dX6_take_25 : decode cX6_take 25 = .ok (.dup, 1) := by decide +kernel
theorem dX6_take_26 : decode cX6_take 26 = .ok (.getfield 41, 3) := by decide +kernel
theorem dX6_take_29 : decode cX6_take 29 = .ok (.iconst 1, 1) := by decide +kernel
theorem dX6_take_30 : decode cX6_take 30 = .ok (.iadd, 1) := by decide +kernel
theorem dX6_take_31 : decode cX6_take 31 = .ok (.putfield 41, 3) := by decide +kernel
theorem dX6_take_34 : decode cX6_take 34 = .ok (.iconst 0, 1) := by decide +kernel
theorem dX6_take_35 : decode cX6_take 35 = .ok (.istore 4, 2) := by decide +kernel
theorem dX6_take_37 : decode cX6_take 37 = .ok (.iload 4, 2) := by decide +kernel
