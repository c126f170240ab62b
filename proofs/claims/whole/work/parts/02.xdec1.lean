theorem dX3_weighWithoutEach_59 : decode cX3_weighWithoutEach 59 = .ok (.iload_n 1, 1) := by decide +kernel
theorem dX3_weighWithoutEach_60 : decode cX3_weighWithoutEach 60 = .ok (.iconst 1, 1) := by decide +kernel
theorem dX3_weighWithoutEach_61 : decode cX3_weighWithoutEach 61 = .ok (.iadd, 1) := by decide +kernel
theorem dX3_weighWithoutEach_62 : decode cX3_weighWithoutEach 62 = .ok (.sipush 256, 3) := by decide +kernel
theorem dX3_weighWithoutEach_65 : decode cX3_weighWithoutEach 65 = .ok (.imul, 1) := by decide +kernel
theorem dX3_weighWithoutEach_66 : decode cX3_weighWithoutEach 66 = .ok (.aload_n 0, 1) := by decide +kernel
theorem dX3_weighWithoutEach_67 : decode cX3_weighWithoutEach 67 = .ok (.invokevirtual 63, 3) := by decide +kernel
theorem dX3_weighWithoutEach_70 : decode cX3_weighWithoutEach 70 = .ok (.iload_n 2, 1) := by decide +kernel
theorem dX3_weighWithoutEach_71 : decode cX3_weighWithoutEach 71 = .ok (.ixor, 1) := by decide +kernel
theorem dX3_weighWithoutEach_72 : decode cX3_weighWithoutEach 72 = .ok (.iadd, 1) := by decide +kernel
theorem dX3_weighWithoutEach_73 : decode cX3_weighWithoutEach 73 = .ok (.iaload, 1) := by decide +kernel
theorem dX3_weighWithoutEach_74 : decode cX3_weighWithoutEach 74 = .ok (.iadd, 1) := by decide +kernel
theorem dX3_weighWithoutEach_75 : decode cX3_weighWithoutEach 75 = .ok (.istore_n 3, 1) := by decide +kernel
theorem dX3_weighWithoutEach_76 : decode cX3_weighWithoutEach 76 = .ok (.aload_n 0, 1) := by decide +kernel
theorem dX3_weighWithoutEach_77 : decode cX3_weighWithoutEach 77 = .ok (.getfield 20, 3) := by decide +kernel
theorem dX3_weighWithoutEach_80 : decode cX3_weighWithoutEach 80 = .ok (.iload_n 1, 1) := by decide +kernel
theorem dX3_weighWithoutEach_81 : decode cX3_weighWithoutEach 81 = .ok (.aload_n 0, 1) := by decide +kernel
theorem dX3_weighWithoutEach_82 : decode cX3_weighWithoutEach 82 = .ok (.getfield 20, 3) := by decide +kernel
theorem dX3_weighWithoutEach_85 : decode cX3_weighWithoutEach 85 = .ok (.iload_n 1, 1) := by decide +kernel
theorem dX3_weighWithoutEach_86 : decode cX3_weighWithoutEach 86 = .ok (.iaload, 1) := by decide +kernel
theorem dX3_weighWithoutEach_87 : decode cX3_weighWithoutEach 87 = .ok (.iload_n 3, 1) := by decide +kernel
theorem dX3_weighWithoutEach_88 : decode cX3_weighWithoutEach 88 = .ok (.invokestatic 109, 3) := by decide +kernel
theorem dX3_weighWithoutEach_91 : decode cX3_weighWithoutEach 91 = .ok (.iastore, 1) := by decide +kernel
theorem dX3_weighWithoutEach_92 : decode cX3_weighWithoutEach 92 = .ok (.aload_n 0, 1) := by decide +kernel
theorem dX3_weighWithoutEach_93 : decode cX3_weighWithoutEach 93 = .ok (.getfield 17, 3) := by decide +kernel
theorem dX3_weighWithoutEach_96 : decode cX3_weighWithoutEach 96 = .ok (.iload_n 2, 1) := by decide +kernel
theorem dX3_weighWithoutEach_97 : decode cX3_weighWithoutEach 97 = .ok (.aload_n 0, 1) := by decide +kernel
theorem dX3_weighWithoutEach_98 : decode cX3_weighWithoutEach 98 = .ok (.aload_n 0, 1) := by decide +kernel
theorem dX3_weighWithoutEach_99 : decode cX3_weighWithoutEach 99 = .ok (.getfield 17, 3) := by decide +kernel
theorem dX3_weighWithoutEach_102 : decode cX3_weighWithoutEach 102 = .ok (.iconst 0, 1) := by decide +kernel
theorem dX3_weighWithoutEach_103 : decode cX3_weighWithoutEach 103 = .ok (.iload_n 2, 1) := by decide +kernel
theorem dX3_weighWithoutEach_104 : decode cX3_weighWithoutEach 104 = .ok (.iload_n 1, 1) := by decide +kernel
theorem dX3_weighWithoutEach_105 : decode cX3_weighWithoutEach 105 = .ok (.invokevirtual 67, 3) := by decide +kernel
theorem dX3_weighWithoutEach_108 : decode cX3_weighWithoutEach 108 = .ok (.iastore, 1) := by decide +kernel
theorem dX3_weighWithoutEach_109 : decode cX3_weighWithoutEach 109 = .ok (.iinc 2 (-1), 3) := by decide +kernel
theorem dX3_weighWithoutEach_112 : decode cX3_weighWithoutEach 112 = .ok (.goto (-67), 3) := by decide +kernel
theorem dX3_weighWithoutEach_115 : decode cX3_weighWithoutEach 115 = .ok (.iinc 1 1, 3) := by decide +kernel
theorem dX3_weighWithoutEach_118 : decode cX3_weighWithoutEach 118 = .ok (.goto (-93), 3) := by decide +kernel
theorem dX3_weighWithoutEach_121 : decode cX3_weighWithoutEach 121 = .ok (.return_, 1) := by decide +kernel
theorem dX3_bestWithAnew_0 : decode cX3_bestWithAnew 0 = .ok (.aload_n 0, 1) := by decide +kernel
theorem dX3_bestWithAnew_1 : decode cX3_bestWithAnew 1 = .ok (.getfield 13, 3) := by decide +kernel
theorem dX3_bestWithAnew_4 : decode cX3_bestWithAnew 4 = .ok (.aload_n 0, 1) := by decide +kernel
theorem dX3_bestWithAnew_5 : decode cX3_bestWithAnew 5 = .ok (.invokevirtual 63, 3) := by decide +kernel
theorem dX3_bestWithAnew_8 : decode cX3_bestWithAnew 8 = .ok (.iaload, 1) := by decide +kernel
theorem dX3_bestWithAnew_9 : decode cX3_bestWithAnew 9 = .ok (.istore_n 2, 1) := by decide +kernel
theorem dX3_bestWithAnew_10 : decode cX3_bestWithAnew 10 = .ok (.iconst 0, 1) := by decide +kernel
theorem dX3_bestWithAnew_11 : decode cX3_bestWithAnew 11 = .ok (.istore_n 3, 1) := by decide +kernel
theorem dX3_bestWithAnew_12 : decode cX3_bestWithAnew 12 = .ok (.iload_n 3, 1) := by decide +kernel
theorem dX3_bestWithAnew_13 : decode cX3_bestWithAnew 13 = .ok (.aload_n 0, 1) := by decide +kernel
theorem dX3_bestWithAnew_14 : decode cX3_bestWithAnew 14 = .ok (.getfield 49, 3) := by decide +kernel
theorem dX3_bestWithAnew_17 : decode cX3_bestWithAnew 17 = .ok (.if_icmp .ge 65, 3) := by decide +kernel
theorem dX3_bestWithAnew_20 : decode cX3_bestWithAnew 20 = .ok (.aload_n 1, 1) := by decide +kernel
theorem dX3_bestWithAnew_21 : decode cX3_bestWithAnew 21 = .ok (.getfield 97, 3) := by decide +kernel
theorem dX3_bestWithAnew_24 : decode cX3_bestWithAnew 24 = .ok (.aload_n 0, 1) := by decide +kernel
theorem dX3_bestWithAnew_25 : decode cX3_bestWithAnew 25 = .ok (.getfield 26, 3) := by decide +kernel
theorem dX3_bestWithAnew_28 : decode cX3_bestWithAnew 28 = .ok (.iload_n 3, 1) := by decide +kernel
theorem dX3_bestWithAnew_29 : decode cX3_bestWithAnew 29 = .ok (.iaload, 1) := by decide +kernel
theorem dX3_bestWithAnew_30 : decode cX3_bestWithAnew 30 = .ok (.aaload, 1) := by decide +kernel
theorem dX3_bestWithAnew_31 : decode cX3_bestWithAnew 31 = .ok (.astore 4, 2) := by decide +kernel
theorem dX3_bestWithAnew_33 : decode cX3_bestWithAnew 33 = .ok (.aload_n 0, 1) := by decide +kernel
theorem dX3_bestWithAnew_34 : decode cX3_bestWithAnew 34 = .ok (.getfield 41, 3) := by decide +kernel
theorem dX3_bestWithAnew_37 : decode cX3_bestWithAnew 37 = .ok (.aload 4, 2) := by decide +kernel
theorem dX3_bestWithAnew_39 : decode cX3_bestWithAnew 39 = .ok (.aload_n 0, 1) := by decide +kernel
theorem dX3_bestWithAnew_40 : decode cX3_bestWithAnew 40 = .ok (.getfield 29, 3) := by decide +kernel
theorem dX3_bestWithAnew_43 : decode cX3_bestWithAnew 43 = .ok (.iload_n 3, 1) := by decide +kernel
theorem dX3_bestWithAnew_44 : decode cX3_bestWithAnew 44 = .ok (.iaload, 1) := by decide +kernel
theorem dX3_bestWithAnew_45 : decode cX3_bestWithAnew 45 = .ok (.invokevirtual 101, 3) := by decide +kernel
theorem dX3_bestWithAnew_48 : decode cX3_bestWithAnew 48 = .ok (.ifCond .eq 28, 3) := by decide +kernel
theorem dX3_bestWithAnew_51 : decode cX3_bestWithAnew 51 = .ok (.iload_n 2, 1) := by decide +kernel
theorem dX3_bestWithAnew_52 : decode cX3_bestWithAnew 52 = .ok (.aload_n 0, 1) := by decide +kernel
theorem dX3_bestWithAnew_53 : decode cX3_bestWithAnew 53 = .ok (.getfield 20, 3) := by decide +kernel
theorem dX3_bestWithAnew_56 : decode cX3_bestWithAnew 56 = .ok (.iload_n 3, 1) := by decide +kernel
theorem dX3_bestWithAnew_57 : decode cX3_bestWithAnew 57 = .ok (.iaload, 1) := by decide +kernel
theorem dX3_bestWithAnew_58 : decode cX3_bestWithAnew 58 = .ok (.sipush 1000, 3) := by decide +kernel
theorem dX3_bestWithAnew_61 : decode cX3_bestWithAnew 61 = .ok (.iadd, 1) := by decide +kernel
theorem dX3_bestWithAnew_62 : decode cX3_bestWithAnew 62 = .ok (.aload_n 0, 1) := by decide +kernel
theorem dX3_bestWithAnew_63 : decode cX3_bestWithAnew 63 = .ok (.getfield 41, 3) := by decide +kernel
theorem dX3_bestWithAnew_66 : decode cX3_bestWithAnew 66 = .ok (.aload 4, 2) := by decide +kernel
theorem dX3_bestWithAnew_68 : decode cX3_bestWithAnew 68 = .ok (.invokevirtual 105, 3) := by decide +kernel
theorem dX3_bestWithAnew_71 : decode cX3_bestWithAnew 71 = .ok (.isub, 1) := by decide +kernel
theorem dX3_bestWithAnew_72 : decode cX3_bestWithAnew 72 = .ok (.invokestatic 109, 3) := by decide +kernel
theorem dX3_bestWithAnew_75 : decode cX3_bestWithAnew 75 = .ok (.istore_n 2, 1) := by decide +kernel
theorem dX3_bestWithAnew_76 : decode cX3_bestWithAnew 76 = .ok (.iinc 3 1, 3) := by decide +kernel
theorem dX3_bestWithAnew_79 : decode cX3_bestWithAnew 79 = .ok (.goto (-67), 3) := by decide +kernel
theorem dX3_bestWithAnew_82 : decode cX3_bestWithAnew 82 = .ok (.iload_n 2, 1) := by decide +kernel
theorem dX3_bestWithAnew_83 : decode cX3_bestWithAnew 83 = .ok (.ireturn, 1) := by decide +kernel
theorem dX4_init_0 : decode cX4_init 0 = .ok (.aload_n 0, 1) := by decide +kernel
theorem dX4_init_1 : decode cX4_init 1 = .ok (.invokespecial 3, 3) := by decide +kernel
theorem dX4_init_4 : decode cX4_init 4 = .ok (.aload_n 0, 1) := by decide +kernel
theorem dX4_init_5 : decode cX4_init 5 = .ok (.iconst (-1), 1) := by decide +kernel
theorem dX4_init_6 : decode cX4_init 6 = .ok (.putfield 9, 3) := by decide +kernel
theorem dX4_init_9 : decode cX4_init 9 = .ok (.aload_n 0, 1) := by decide +kernel
theorem dX4_init_10 : decode cX4_init 10 = .ok (.iconst 0, 1) := by decide +kernel
theorem dX4_init_11 : decode cX4_init 11 = .ok (.putfield 15, 3) := by decide +kernel
theorem dX4_init_14 : decode cX4_init 14 = .ok (.aload_n 0, 1) := by decide +kernel
theorem dX4_init_15 : decode cX4_init 15 = .ok (.iconst 0, 1) := by decide +kernel
theorem dX4_init_16 : decode cX4_init 16 = .ok (.putfield 18, 3) := by decide +kernel
theorem dX4_init_19 : decode cX4_init 19 = .ok (.aload_n 0, 1) := by decide +kernel
theorem dX4_init_20 : decode cX4_init 20 = .ok (.iconst 0, 1) := by decide +kernel
theorem dX4_init_21 : decode cX4_init 21 = .ok (.putfield 21, 3) := by decide +kernel
theorem dX4_init_24 : decode cX4_init 24 = .ok (.aload_n 0, 1) := by decide +kernel
theorem dX4_init_25 : decode cX4_init 25 = .ok (.bipush 7, 2) := by decide +kernel
theorem dX4_init_27 : decode cX4_init 27 = .ok (.newarray .int, 2) := by decide +kernel
theorem dX4_init_29 : decode cX4_init 29 = .ok (.putfield 24, 3) := by decide +kernel
theorem dX4_init_32 : decode cX4_init 32 = .ok (.aload_n 0, 1) := by decide +kernel
theorem dX4_init_33 : decode cX4_init 33 = .ok (.aload_n 1, 1) := by decide +kernel
theorem dX4_init_34 : decode cX4_init 34 = .ok (.putfield 28, 3) := by decide +kernel
theorem dX4_init_37 : decode cX4_init 37 = .ok (.aload_n 0, 1) := by decide +kernel
theorem dX4_init_38 : decode cX4_init 38 = .ok (.aload_n 2, 1) := by decide +kernel
theorem dX4_init_39 : decode cX4_init 39 = .ok (.putfield 32, 3) := by decide +kernel
theorem dX4_init_42 : decode cX4_init 42 = .ok (.return_, 1) := by decide +kernel
theorem dX4_readAll_0 : decode cX4_readAll 0 = .ok (.aload_n 0, 1) := by decide +kernel
theorem dX4_readAll_1 : decode cX4_readAll 1 = .ok (.aload_n 1, 1) := by decide +kernel
theorem dX4_readAll_2 : decode cX4_readAll 2 = .ok (.putfield 32, 3) := by decide +kernel
theorem dX4_readAll_5 : decode cX4_readAll 5 = .ok (.aload_n 0, 1) := by decide +kernel
theorem dX4_readAll_6 : decode cX4_readAll 6 = .ok (.iconst 0, 1) := by decide +kernel
theorem dX4_readAll_7 : decode cX4_readAll 7 = .ok (.putfield 15, 3) := by decide +kernel
theorem dX4_readAll_10 : decode cX4_readAll 10 = .ok (.aload_n 0, 1) := by decide +kernel
theorem dX4_readAll_11 : decode cX4_readAll 11 = .ok (.iconst (-1), 1) := by decide +kernel
theorem dX4_readAll_12 : decode cX4_readAll 12 = .ok (.putfield 9, 3) := by decide +kernel
theorem dX4_readAll_15 : decode cX4_readAll 15 = .ok (.iconst 1, 1) := by decide +kernel
theorem dX4_readAll_16 : decode cX4_readAll 16 = .ok (.istore_n 2, 1) := by decide +kernel
theorem dX4_readAll_17 : decode cX4_readAll 17 = .ok (.iload_n 2, 1) := by decide +kernel
theorem dX4_readAll_18 : decode cX4_readAll 18 = .ok (.sipush 160, 3) := by decide +kernel
theorem dX4_readAll_21 : decode cX4_readAll 21 = .ok (.if_icmp .gt 45, 3) := by decide +kernel
theorem dX4_readAll_24 : decode cX4_readAll 24 = .ok (.aload_n 0, 1) := by decide +kernel
theorem dX4_readAll_25 : decode cX4_readAll 25 = .ok (.invokevirtual 38, 3) := by decide +kernel
theorem dX4_readAll_28 : decode cX4_readAll 28 = .ok (.ifCond .ne 5, 3) := by decide +kernel
theorem dX4_readAll_31 : decode cX4_readAll 31 = .ok (.iconst (-1), 1) := by decide +kernel
theorem dX4_readAll_32 : decode cX4_readAll 32 = .ok (.ireturn, 1) := by decide +kernel
theorem dX4_readAll_33 : decode cX4_readAll 33 = .ok (.aload_n 0, 1) := by decide +kernel
theorem dX4_readAll_34 : decode cX4_readAll 34 = .ok (.getfield 15, 3) := by decide +kernel
theorem dX4_readAll_37 : decode cX4_readAll 37 = .ok (.aload_n 0, 1) := by decide +kernel
theorem dX4_readAll_38 : decode cX4_readAll 38 = .ok (.getfield 32, 3) := by decide +kernel
theorem dX4_readAll_41 : decode cX4_readAll 41 = .ok (.getfield 42, 3) := by decide +kernel
theorem dX4_readAll_44 : decode cX4_readAll 44 = .ok (.if_icmp .ne 5, 3) := by decide +kernel
theorem dX4_readAll_47 : decode cX4_readAll 47 = .ok (.iload_n 2, 1) := by decide +kernel
theorem dX4_readAll_48 : decode cX4_readAll 48 = .ok (.ireturn, 1) := by decide +kernel
theorem dX4_readAll_49 : decode cX4_readAll 49 = .ok (.aload_n 0, 1) := by decide +kernel
theorem dX4_readAll_50 : decode cX4_readAll 50 = .ok (.ldc 45, 2) := by decide +kernel
theorem dX4_readAll_52 : decode cX4_readAll 52 = .ok (.invokevirtual 47, 3) := by decide +kernel
theorem dX4_readAll_55 : decode cX4_readAll 55 = .ok (.ifCond .ne 5, 3) := by decide +kernel
theorem dX4_readAll_58 : decode cX4_readAll 58 = .ok (.iconst (-1), 1) := by decide +kernel
theorem dX4_readAll_59 : decode cX4_readAll 59 = .ok (.ireturn, 1) := by decide +kernel
theorem dX4_readAll_60 : decode cX4_readAll 60 = .ok (.iinc 2 1, 3) := by decide +kernel
theorem dX4_readAll_63 : decode cX4_readAll 63 = .ok (.goto (-46), 3) := by decide +kernel
theorem dX4_readAll_66 : decode cX4_readAll 66 = .ok (.iconst (-1), 1) := by decide +kernel
theorem dX4_readAll_67 : decode cX4_readAll 67 = .ok (.ireturn, 1) := by decide +kernel
theorem dX4_stopAt_0 : decode cX4_stopAt 0 = .ok (.aload_n 0, 1) := by decide +kernel
theorem dX4_stopAt_1 : decode cX4_stopAt 1 = .ok (.iload_n 1, 1) := by decide +kernel
theorem dX4_stopAt_2 : decode cX4_stopAt 2 = .ok (.putfield 9, 3) := by decide +kernel
theorem dX4_stopAt_5 : decode cX4_stopAt 5 = .ok (.iconst 0, 1) := by decide +kernel
theorem dX4_stopAt_6 : decode cX4_stopAt 6 = .ok (.ireturn, 1) := by decide +kernel
theorem dX4_readItem_0 : decode cX4_readItem 0 = .ok (.aload_n 0, 1) := by decide +kernel
theorem dX4_readItem_1 : decode cX4_readItem 1 = .ok (.aload_n 0, 1) := by decide +kernel
theorem dX4_readItem_2 : decode cX4_readItem 2 = .ok (.getfield 15, 3) := by decide +kernel
theorem dX4_readItem_5 : decode cX4_readItem 5 = .ok (.putfield 18, 3) := by decide +kernel
theorem dX4_readItem_8 : decode cX4_readItem 8 = .ok (.aload_n 0, 1) := by decide +kernel
theorem dX4_readItem_9 : decode cX4_readItem 9 = .ok (.getfield 32, 3) := by decide +kernel
theorem dX4_readItem_12 : decode cX4_readItem 12 = .ok (.aload_n 0, 1) := by decide +kernel
theorem dX4_readItem_13 : decode cX4_readItem 13 = .ok (.getfield 15, 3) := by decide +kernel
theorem dX4_readItem_16 : decode cX4_readItem 16 = .ok (.invokevirtual 51, 3) := by decide +kernel
theorem dX4_readItem_19 : decode cX4_readItem 19 = .ok (.lookupswitch 169 #[(97, 41), (100, 63), (108, 85), (111, 107)], 41) := by decide +kernel
theorem dX4_readItem_60 : decode cX4_readItem 60 = .ok (.aload_n 0, 1) := by decide +kernel
theorem dX4_readItem_61 : decode cX4_readItem 61 = .ok (.ldc 55, 2) := by decide +kernel
theorem dX4_readItem_63 : decode cX4_readItem 63 = .ok (.invokevirtual 47, 3) := by decide +kernel
theorem dX4_readItem_66 : decode cX4_readItem 66 = .ok (.ifCond .eq 14, 3) := by decide +kernel
theorem dX4_readItem_69 : decode cX4_readItem 69 = .ok (.aload_n 0, 1) := by decide +kernel
theorem dX4_readItem_70 : decode cX4_readItem 70 = .ok (.invokevirtual 57, 3) := by decide +kernel
theorem dX4_readItem_73 : decode cX4_readItem 73 = .ok (.ifCond .eq 7, 3) := by decide +kernel
theorem dX4_readItem_76 : decode cX4_readItem 76 = .ok (.iconst 1, 1) := by decide +kernel
theorem dX4_readItem_77 : decode cX4_readItem 77 = .ok (.goto 4, 3) := by decide +kernel
theorem dX4_readItem_80 : decode cX4_readItem 80 = .ok (.iconst 0, 1) := by decide +kernel
theorem dX4_readItem_81 : decode cX4_readItem 81 = .ok (.ireturn, 1) := by decide +kernel
theorem dX4_readItem_82 : decode cX4_readItem 82 = .ok (.aload_n 0, 1) := by decide +kernel
theorem dX4_readItem_83 : decode cX4_readItem 83 = .ok (.ldc 60, 2) := by decide +kernel
theorem dX4_readItem_85 : decode cX4_readItem 85 = .ok (.invokevirtual 47, 3) := by decide +kernel
theorem dX4_readItem_88 : decode cX4_readItem 88 = .ok (.ifCond .eq 14, 3) := by decide +kernel
theorem dX4_readItem_91 : decode cX4_readItem 91 = .ok (.aload_n 0, 1) := by decide +kernel
theorem dX4_readItem_92 : decode cX4_readItem 92 = .ok (.invokevirtual 62, 3) := by decide +kernel
theorem dX4_readItem_95 : decode cX4_readItem 95 = .ok (.ifCond .eq 7, 3) := by decide +kernel
theorem dX4_readItem_98 : decode cX4_readItem 98 = .ok (.iconst 1, 1) := by decide +kernel
theorem dX4_readItem_99 : decode cX4_readItem 99 = .ok (.goto 4, 3) := by decide +kernel
theorem dX4_readItem_102 : decode cX4_readItem 102 = .ok (.iconst 0, 1) := by decide +kernel
theorem dX4_readItem_103 : decode cX4_readItem 103 = .ok (.ireturn, 1) := by decide +kernel
theorem dX4_readItem_104 : decode cX4_readItem 104 = .ok (.aload_n 0, 1) := by decide +kernel
theorem dX4_readItem_105 : decode cX4_readItem 105 = .ok (.ldc 65, 2) := by decide +kernel
theorem dX4_readItem_107 : decode cX4_readItem 107 = .ok (.invokevirtual 47, 3) := by decide +kernel
theorem dX4_readItem_110 : decode cX4_readItem 110 = .ok (.ifCond .eq 14, 3) := by decide +kernel
theorem dX4_readItem_113 : decode cX4_readItem 113 = .ok (.aload_n 0, 1) := by decide +kernel
theorem dX4_readItem_114 : decode cX4_readItem 114 = .ok (.invokevirtual 67, 3) := by decide +kernel
theorem dX4_readItem_117 : decode cX4_readItem 117 = .ok (.ifCond .eq 7, 3) := by decide +kernel
theorem dX4_readItem_120 : decode cX4_readItem 120 = .ok (.iconst 1, 1) := by decide +kernel
theorem dX4_readItem_121 : decode cX4_readItem 121 = .ok (.goto 4, 3) := by decide +kernel
theorem dX4_readItem_124 : decode cX4_readItem 124 = .ok (.iconst 0, 1) := by decide +kernel
theorem dX4_readItem_125 : decode cX4_readItem 125 = .ok (.ireturn, 1) := by decide +kernel
theorem dX4_readItem_126 : decode cX4_readItem 126 = .ok (.aload_n 0, 1) := by decide +kernel
theorem dX4_readItem_127 : decode cX4_readItem 127 = .ok (.getfield 32, 3) := by decide +kernel
theorem dX4_readItem_130 : decode cX4_readItem 130 = .ok (.aload_n 0, 1) := by decide +kernel
theorem dX4_readItem_131 : decode cX4_readItem 131 = .ok (.getfield 15, 3) := by decide +kernel
theorem dX4_readItem_134 : decode cX4_readItem 134 = .ok (.iconst 1, 1) := by decide +kernel
theorem dX4_readItem_135 : decode cX4_readItem 135 = .ok (.iadd, 1) := by decide +kernel
theorem dX4_readItem_136 : decode cX4_readItem 136 = .ok (.invokevirtual 51, 3) := by decide +kernel
theorem dX4_readItem_139 : decode cX4_readItem 139 = .ok (.bipush 110, 2) := by decide +kernel
theorem dX4_readItem_141 : decode cX4_readItem 141 = .ok (.if_icmp .ne 25, 3) := by decide +kernel
theorem dX4_readItem_144 : decode cX4_readItem 144 = .ok (.aload_n 0, 1) := by decide +kernel
theorem dX4_readItem_145 : decode cX4_readItem 145 = .ok (.ldc 70, 2) := by decide +kernel
theorem dX4_readItem_147 : decode cX4_readItem 147 = .ok (.invokevirtual 47, 3) := by decide +kernel
theorem dX4_readItem_150 : decode cX4_readItem 150 = .ok (.ifCond .eq 14, 3) := by decide +kernel
theorem dX4_readItem_153 : decode cX4_readItem 153 = .ok (.aload_n 0, 1) := by decide +kernel
theorem dX4_readItem_154 : decode cX4_readItem 154 = .ok (.invokevirtual 72, 3) := by decide +kernel
theorem dX4_readItem_157 : decode cX4_readItem 157 = .ok (.ifCond .eq 7, 3) := by decide +kernel
theorem dX4_readItem_160 : decode cX4_readItem 160 = .ok (.iconst 1, 1) := by decide +kernel
theorem dX4_readItem_161 : decode cX4_readItem 161 = .ok (.goto 4, 3) := by decide +kernel
theorem dX4_readItem_164 : decode cX4_readItem 164 = .ok (.iconst 0, 1) := by decide +kernel
theorem dX4_readItem_165 : decode cX4_readItem 165 = .ok (.ireturn, 1) := by decide +kernel
theorem dX4_readItem_166 : decode cX4_readItem 166 = .ok (.aload_n 0, 1) := by decide +kernel
theorem dX4_readItem_167 : decode cX4_readItem 167 = .ok (.ldc 75, 2) := by decide +kernel
theorem dX4_readItem_169 : decode cX4_readItem 169 = .ok (.invokevirtual 47, 3) := by decide +kernel
theorem dX4_readItem_172 : decode cX4_readItem 172 = .ok (.ifCond .eq 14, 3) := by decide +kernel
theorem dX4_readItem_175 : decode cX4_readItem 175 = .ok (.aload_n 0, 1) := by decide +kernel
theorem dX4_readItem_176 : decode cX4_readItem 176 = .ok (.invokevirtual 77, 3) := by decide +kernel
theorem dX4_readItem_179 : decode cX4_readItem 179 = .ok (.ifCond .eq 7, 3) := by decide +kernel
theorem dX4_readItem_182 : decode cX4_readItem 182 = .ok (.iconst 1, 1) := by decide +kernel
theorem dX4_readItem_183 : decode cX4_readItem 183 = .ok (.goto 4, 3) := by decide +kernel
theorem dX4_readItem_186 : decode cX4_readItem 186 = .ok (.iconst 0, 1) := by decide +kernel
theorem dX4_readItem_187 : decode cX4_readItem 187 = .ok (.ireturn, 1) := by decide +kernel
theorem dX4_readItem_188 : decode cX4_readItem 188 = .ok (.aload_n 0, 1) := by decide +kernel
theorem dX4_readItem_189 : decode cX4_readItem 189 = .ok (.aload_n 0, 1) := by decide +kernel
theorem dX4_readItem_190 : decode cX4_readItem 190 = .ok (.getfield 15, 3) := by decide +kernel
theorem dX4_readItem_193 : decode cX4_readItem 193 = .ok (.invokevirtual 80, 3) := by decide +kernel
theorem dX4_readItem_196 : decode cX4_readItem 196 = .ok (.ireturn, 1) := by decide +kernel
theorem dX4_spells_0 : decode cX4_spells 0 = .ok (.iconst 0, 1) := by decide +kernel
theorem dX4_spells_1 : decode cX4_spells 1 = .ok (.istore_n 2, 1) := by decide +kernel
theorem dX4_spells_2 : decode cX4_spells 2 = .ok (.iload_n 2, 1) := by decide +kernel
theorem dX4_spells_3 : decode cX4_spells 3 = .ok (.aload_n 1, 1) := by decide +kernel
theorem dX4_spells_4 : decode cX4_spells 4 = .ok (.invokevirtual 84, 3) := by decide +kernel
theorem dX4_spells_7 : decode cX4_spells 7 = .ok (.if_icmp .ge 47, 3) := by decide +kernel
theorem dX4_spells_10 : decode cX4_spells 10 = .ok (.aload_n 0, 1) := by decide +kernel
theorem dX4_spells_11 : decode cX4_spells 11 = .ok (.getfield 32, 3) := by decide +kernel
theorem dX4_spells_14 : decode cX4_spells 14 = .ok (.aload_n 0, 1) := by decide +kernel
theorem dX4_spells_15 : decode cX4_spells 15 = .ok (.getfield 15, 3) := by decide +kernel
theorem dX4_spells_18 : decode cX4_spells 18 = .ok (.invokevirtual 51, 3) := by decide +kernel
theorem dX4_spells_21 : decode cX4_spells 21 = .ok (.aload_n 1, 1) := by decide +kernel
theorem dX4_spells_22 : decode cX4_spells 22 = .ok (.iload_n 2, 1) := by decide +kernel
theorem dX4_spells_23 : decode cX4_spells 23 = .ok (.invokevirtual 90, 3) := by decide +kernel
theorem dX4_spells_26 : decode cX4_spells 26 = .ok (.if_icmp .eq 12, 3) := by decide +kernel
theorem dX4_spells_29 : decode cX4_spells 29 = .ok (.aload_n 0, 1) := by decide +kernel
theorem dX4_spells_30 : decode cX4_spells 30 = .ok (.aload_n 0, 1) := by decide +kernel
theorem dX4_spells_31 : decode cX4_spells 31 = .ok (.getfield 15, 3) := by decide +kernel
theorem dX4_spells_34 : decode cX4_spells 34 = .ok (.invokevirtual 80, 3) := by decide +kernel
theorem dX4_spells_37 : decode cX4_spells 37 = .ok (.ireturn, 1) := by decide +kernel
theorem dX4_spells_38 : decode cX4_spells 38 = .ok (.aload_n 0, 1) := by decide +kernel
theorem dX4_spells_39 : decode cX4_spells 39 = .ok (.dup, 1) := by decide +kernel
theorem dX4_spells_40 : decode cX4_spells 40 = .ok (.getfield 15, 3) := by decide +kernel
theorem dX4_spells_43 : decode cX4_spells 43 = .ok (.iconst 1, 1) := by decide +kernel
theorem dX4_spells_44 : decode cX4_spells 44 = .ok (.iadd, 1) := by decide +kernel
theorem dX4_spells_45 : decode cX4_spells 45 = .ok (.putfield 15, 3) := by decide +kernel
theorem dX4_spells_48 : decode cX4_spells 48 = .ok (.iinc 2 1, 3) := by decide +kernel
theorem dX4_spells_51 : decode cX4_spells 51 = .ok (.goto (-49), 3) := by decide +kernel
theorem dX4_spells_54 : decode cX4_spells 54 = .ok (.iconst 1, 1) := by decide +kernel
theorem dX4_spells_55 : decode cX4_spells 55 = .ok (.ireturn, 1) := by decide +kernel
theorem dX4_readArm_0 : decode cX4_readArm 0 = .ok (.aload_n 0, 1) := by decide +kernel
theorem dX4_readArm_1 : decode cX4_readArm 1 = .ok (.getfield 28, 3) := by decide +kernel
theorem dX4_readArm_4 : decode cX4_readArm 4 = .ok (.invokevirtual 94, 3) := by decide +kernel
theorem dX4_readArm_7 : decode cX4_readArm 7 = .ok (.ifCond .ne 12, 3) := by decide +kernel
theorem dX4_readArm_10 : decode cX4_readArm 10 = .ok (.aload_n 0, 1) := by decide +kernel
theorem dX4_readArm_11 : decode cX4_readArm 11 = .ok (.aload_n 0, 1) := by decide +kernel
theorem dX4_readArm_12 : decode cX4_readArm 12 = .ok (.getfield 18, 3) := by decide +kernel
theorem dX4_readArm_15 : decode cX4_readArm 15 = .ok (.invokevirtual 80, 3) := by decide +kernel
theorem dX4_readArm_18 : decode cX4_readArm 18 = .ok (.ireturn, 1) := by decide +kernel
theorem dX4_readArm_19 : decode cX4_readArm 19 = .ok (.aload_n 0, 1) := by decide +kernel
theorem dX4_readArm_20 : decode cX4_readArm 20 = .ok (.getstatic 99, 3) := by decide +kernel
theorem dX4_readArm_23 : decode cX4_readArm 23 = .ok (.getstatic 102, 3) := by decide +kernel
theorem dX4_readArm_26 : decode cX4_readArm 26 = .ok (.invokevirtual 105, 3) := by decide +kernel
theorem dX4_readArm_29 : decode cX4_readArm 29 = .ok (.ifCond .ne 5, 3) := by decide +kernel
theorem dX4_readArm_32 : decode cX4_readArm 32 = .ok (.iconst 0, 1) := by decide +kernel
theorem dX4_readArm_33 : decode cX4_readArm 33 = .ok (.ireturn, 1) := by decide +kernel
theorem dX4_readArm_34 : decode cX4_readArm 34 = .ok (.aload_n 0, 1) := by decide +kernel
theorem dX4_readArm_35 : decode cX4_readArm 35 = .ok (.getfield 28, 3) := by decide +kernel
theorem dX4_readArm_38 : decode cX4_readArm 38 = .ok (.aload_n 0, 1) := by decide +kernel
theorem dX4_readArm_39 : decode cX4_readArm 39 = .ok (.getfield 24, 3) := by decide +kernel
theorem dX4_readArm_42 : decode cX4_readArm 42 = .ok (.iconst 0, 1) := by decide +kernel
theorem dX4_readArm_43 : decode cX4_readArm 43 = .ok (.iaload, 1) := by decide +kernel
theorem dX4_readArm_44 : decode cX4_readArm 44 = .ok (.aload_n 0, 1) := by decide +kernel
theorem dX4_readArm_45 : decode cX4_readArm 45 = .ok (.getfield 24, 3) := by decide +kernel
theorem dX4_readArm_48 : decode cX4_readArm 48 = .ok (.iconst 1, 1) := by decide +kernel
theorem dX4_readArm_49 : decode cX4_readArm 49 = .ok (.iaload, 1) := by decide +kernel
theorem dX4_readArm_50 : decode cX4_readArm 50 = .ok (.aload_n 0, 1) := by decide +kernel
theorem dX4_readArm_51 : decode cX4_readArm 51 = .ok (.getfield 24, 3) := by decide +kernel
theorem dX4_readArm_54 : decode cX4_readArm 54 = .ok (.iconst 2, 1) := by decide +kernel
theorem dX4_readArm_55 : decode cX4_readArm 55 = .ok (.iaload, 1) := by decide +kernel
theorem dX4_readArm_56 : decode cX4_readArm 56 = .ok (.aload_n 0, 1) := by decide +kernel
theorem dX4_readArm_57 : decode cX4_readArm 57 = .ok (.getfield 24, 3) := by decide +kernel
theorem dX4_readArm_60 : decode cX4_readArm 60 = .ok (.iconst 3, 1) := by decide +kernel
theorem dX4_readArm_61 : decode cX4_readArm 61 = .ok (.iaload, 1) := by decide +kernel
theorem dX4_readArm_62 : decode cX4_readArm 62 = .ok (.aload_n 0, 1) := by decide +kernel
theorem dX4_readArm_63 : decode cX4_readArm 63 = .ok (.getfield 24, 3) := by decide +kernel
theorem dX4_readArm_66 : decode cX4_readArm 66 = .ok (.iconst 4, 1) := by decide +kernel
theorem dX4_readArm_67 : decode cX4_readArm 67 = .ok (.iaload, 1) := by decide +kernel
theorem dX4_readArm_68 : decode cX4_readArm 68 = .ok (.aload_n 0, 1) := by decide +kernel
theorem dX4_readArm_69 : decode cX4_readArm 69 = .ok (.getfield 24, 3) := by decide +kernel
theorem dX4_readArm_72 : decode cX4_readArm 72 = .ok (.iconst 5, 1) := by decide +kernel
theorem dX4_readArm_73 : decode cX4_readArm 73 = .ok (.iaload, 1) := by decide +kernel
theorem dX4_readArm_74 : decode cX4_readArm 74 = .ok (.invokevirtual 109, 3) := by decide +kernel
theorem dX4_readArm_77 : decode cX4_readArm 77 = .ok (.pop, 1) := by decide +kernel
theorem dX4_readArm_78 : decode cX4_readArm 78 = .ok (.iconst 1, 1) := by decide +kernel
theorem dX4_readArm_79 : decode cX4_readArm 79 = .ok (.ireturn, 1) := by decide +kernel
theorem dX4_readDoll_0 : decode cX4_readDoll 0 = .ok (.aload_n 0, 1) := by decide +kernel
theorem dX4_readDoll_1 : decode cX4_readDoll 1 = .ok (.getfield 28, 3) := by decide +kernel
theorem dX4_readDoll_4 : decode cX4_readDoll 4 = .ok (.invokevirtual 113, 3) := by decide +kernel
theorem dX4_readDoll_7 : decode cX4_readDoll 7 = .ok (.ifCond .ne 12, 3) := by decide +kernel
theorem dX4_readDoll_10 : decode cX4_readDoll 10 = .ok (.aload_n 0, 1) := by decide +kernel
theorem dX4_readDoll_11 : decode cX4_readDoll 11 = .ok (.aload_n 0, 1) := by decide +kernel
theorem dX4_readDoll_12 : decode cX4_readDoll 12 = .ok (.getfield 18, 3) := by decide +kernel
theorem dX4_readDoll_15 : decode cX4_readDoll 15 = .ok (.invokevirtual 80, 3) := by decide +kernel
theorem dX4_readDoll_18 : decode cX4_readDoll 18 = .ok (.ireturn, 1) := by decide +kernel
theorem dX4_readDoll_19 : decode cX4_readDoll 19 = .ok (.aload_n 0, 1) := by decide +kernel
theorem dX4_readDoll_20 : decode cX4_readDoll 20 = .ok (.getstatic 116, 3) := by decide +kernel
theorem dX4_readDoll_23 : decode cX4_readDoll 23 = .ok (.getstatic 119, 3) := by decide +kernel
theorem dX4_readDoll_26 : decode cX4_readDoll 26 = .ok (.invokevirtual 105, 3) := by decide +kernel
theorem dX4_readDoll_29 : decode cX4_readDoll 29 = .ok (.ifCond .ne 5, 3) := by decide +kernel
theorem dX4_readDoll_32 : decode cX4_readDoll 32 = .ok (.iconst 0, 1) := by decide +kernel
theorem dX4_readDoll_33 : decode cX4_readDoll 33 = .ok (.ireturn, 1) := by decide +kernel
theorem dX4_readDoll_34 : decode cX4_readDoll 34 = .ok (.aload_n 0, 1) := by decide +kernel
theorem dX4_readDoll_35 : decode cX4_readDoll 35 = .ok (.getfield 28, 3) := by decide +kernel
theorem dX4_readDoll_38 : decode cX4_readDoll 38 = .ok (.aload_n 0, 1) := by decide +kernel
theorem dX4_readDoll_39 : decode cX4_readDoll 39 = .ok (.getfield 24, 3) := by decide +kernel
theorem dX4_readDoll_42 : decode cX4_readDoll 42 = .ok (.iconst 0, 1) := by decide +kernel
theorem dX4_readDoll_43 : decode cX4_readDoll 43 = .ok (.iaload, 1) := by decide +kernel
theorem dX4_readDoll_44 : decode cX4_readDoll 44 = .ok (.aload_n 0, 1) := by decide +kernel
theorem dX4_readDoll_45 : decode cX4_readDoll 45 = .ok (.getfield 24, 3) := by decide +kernel
theorem dX4_readDoll_48 : decode cX4_readDoll 48 = .ok (.iconst 1, 1) := by decide +kernel
theorem dX4_readDoll_49 : decode cX4_readDoll 49 = .ok (.iaload, 1) := by decide +kernel
theorem dX4_readDoll_50 : decode cX4_readDoll 50 = .ok (.aload_n 0, 1) := by decide +kernel
theorem dX4_readDoll_51 : decode cX4_readDoll 51 = .ok (.getfield 24, 3) := by decide +kernel
theorem dX4_readDoll_54 : decode cX4_readDoll 54 = .ok (.iconst 2, 1) := by decide +kernel
theorem dX4_readDoll_55 : decode cX4_readDoll 55 = .ok (.iaload, 1) := by decide +kernel
theorem dX4_readDoll_56 : decode cX4_readDoll 56 = .ok (.aload_n 0, 1) := by decide +kernel
theorem dX4_readDoll_57 : decode cX4_readDoll 57 = .ok (.getfield 24, 3) := by decide +kernel
theorem dX4_readDoll_60 : decode cX4_readDoll 60 = .ok (.iconst 3, 1) := by decide +kernel
theorem dX4_readDoll_61 : decode cX4_readDoll 61 = .ok (.iaload, 1) := by decide +kernel
theorem dX4_readDoll_62 : decode cX4_readDoll 62 = .ok (.aload_n 0, 1) := by decide +kernel
theorem dX4_readDoll_63 : decode cX4_readDoll 63 = .ok (.getfield 24, 3) := by decide +kernel
theorem dX4_readDoll_66 : decode cX4_readDoll 66 = .ok (.iconst 4, 1) := by decide +kernel
theorem dX4_readDoll_67 : decode cX4_readDoll 67 = .ok (.iaload, 1) := by decide +kernel
theorem dX4_readDoll_68 : decode cX4_readDoll 68 = .ok (.aload_n 0, 1) := by decide +kernel
theorem dX4_readDoll_69 : decode cX4_readDoll 69 = .ok (.getfield 24, 3) := by decide +kernel
theorem dX4_readDoll_72 : decode cX4_readDoll 72 = .ok (.iconst 5, 1) := by decide +kernel
theorem dX4_readDoll_73 : decode cX4_readDoll 73 = .ok (.iaload, 1) := by decide +kernel
theorem dX4_readDoll_74 : decode cX4_readDoll 74 = .ok (.aload_n 0, 1) := by decide +kernel
theorem dX4_readDoll_75 : decode cX4_readDoll 75 = .ok (.getfield 24, 3) := by decide +kernel
theorem dX4_readDoll_78 : decode cX4_readDoll 78 = .ok (.bipush 6, 2) := by decide +kernel
theorem dX4_readDoll_80 : decode cX4_readDoll 80 = .ok (.iaload, 1) := by decide +kernel
theorem dX4_readDoll_81 : decode cX4_readDoll 81 = .ok (.invokevirtual 122, 3) := by decide +kernel
theorem dX4_readDoll_84 : decode cX4_readDoll 84 = .ok (.pop, 1) := by decide +kernel
theorem dX4_readDoll_85 : decode cX4_readDoll 85 = .ok (.iconst 1, 1) := by decide +kernel
theorem dX4_readDoll_86 : decode cX4_readDoll 86 = .ok (.ireturn, 1) := by decide +kernel
theorem dX4_readOn_0 : decode cX4_readOn 0 = .ok (.aload_n 0, 1) := by decide +kernel
theorem dX4_readOn_1 : decode cX4_readOn 1 = .ok (.invokevirtual 126, 3) := by decide +kernel
theorem dX4_readOn_4 : decode cX4_readOn 4 = .ok (.istore_n 1, 1) := by decide +kernel
theorem dX4_readOn_5 : decode cX4_readOn 5 = .ok (.iload_n 1, 1) := by decide +kernel
theorem dX4_readOn_6 : decode cX4_readOn 6 = .ok (.iconst (-1), 1) := by decide +kernel
theorem dX4_readOn_7 : decode cX4_readOn 7 = .ok (.if_icmp .ne 5, 3) := by decide +kernel
theorem dX4_readOn_10 : decode cX4_readOn 10 = .ok (.iconst 0, 1) := by decide +kernel
theorem dX4_readOn_11 : decode cX4_readOn 11 = .ok (.ireturn, 1) := by decide +kernel
theorem dX4_readOn_12 : decode cX4_readOn 12 = .ok (.aload_n 0, 1) := by decide +kernel
theorem dX4_readOn_13 : decode cX4_readOn 13 = .ok (.getfield 28, 3) := by decide +kernel
theorem dX4_readOn_16 : decode cX4_readOn 16 = .ok (.iload_n 1, 1) := by decide +kernel
theorem dX4_readOn_17 : decode cX4_readOn 17 = .ok (.invokevirtual 129, 3) := by decide +kernel
theorem dX4_readOn_20 : decode cX4_readOn 20 = .ok (.ifCond .eq 18, 3) := by decide +kernel
theorem dX4_readOn_23 : decode cX4_readOn 23 = .ok (.aload_n 0, 1) := by decide +kernel
theorem dX4_readOn_24 : decode cX4_readOn 24 = .ok (.getfield 28, 3) := by decide +kernel
theorem dX4_readOn_27 : decode cX4_readOn 27 = .ok (.getfield 132, 3) := by decide +kernel
theorem dX4_readOn_30 : decode cX4_readOn 30 = .ok (.iload_n 1, 1) := by decide +kernel
theorem dX4_readOn_31 : decode cX4_readOn 31 = .ok (.aaload, 1) := by decide +kernel
theorem dX4_readOn_32 : decode cX4_readOn 32 = .ok (.invokevirtual 136, 3) := by decide +kernel
theorem dX4_readOn_35 : decode cX4_readOn 35 = .ok (.ifCond .ne 12, 3) := by decide +kernel
theorem dX4_readOn_38 : decode cX4_readOn 38 = .ok (.aload_n 0, 1) := by decide +kernel
theorem dX4_readOn_39 : decode cX4_readOn 39 = .ok (.aload_n 0, 1) := by decide +kernel
theorem dX4_readOn_40 : decode cX4_readOn 40 = .ok (.getfield 21, 3) := by decide +kernel
theorem dX4_readOn_43 : decode cX4_readOn 43 = .ok (.invokevirtual 80, 3) := by decide +kernel
theorem dX4_readOn_46 : decode cX4_readOn 46 = .ok (.ireturn, 1) := by decide +kernel
theorem dX4_readOn_47 : decode cX4_readOn 47 = .ok (.aload_n 0, 1) := by decide +kernel
theorem dX4_readOn_48 : decode cX4_readOn 48 = .ok (.invokevirtual 126, 3) := by decide +kernel
theorem dX4_readOn_51 : decode cX4_readOn 51 = .ok (.istore_n 2, 1) := by decide +kernel
theorem dX4_readOn_52 : decode cX4_readOn 52 = .ok (.iload_n 2, 1) := by decide +kernel
theorem dX4_readOn_53 : decode cX4_readOn 53 = .ok (.iconst (-1), 1) := by decide +kernel
theorem dX4_readOn_54 : decode cX4_readOn 54 = .ok (.if_icmp .ne 5, 3) := by decide +kernel
theorem dX4_readOn_57 : decode cX4_readOn 57 = .ok (.iconst 0, 1) := by decide +kernel
theorem dX4_readOn_58 : decode cX4_readOn 58 = .ok (.ireturn, 1) := by decide +kernel
theorem dX4_readOn_59 : decode cX4_readOn 59 = .ok (.aload_n 0, 1) := by decide +kernel
theorem dX4_readOn_60 : decode cX4_readOn 60 = .ok (.getfield 28, 3) := by decide +kernel
theorem dX4_readOn_63 : decode cX4_readOn 63 = .ok (.getfield 132, 3) := by decide +kernel
theorem dX4_readOn_66 : decode cX4_readOn 66 = .ok (.iload_n 1, 1) := by decide +kernel
theorem dX4_readOn_67 : decode cX4_readOn 67 = .ok (.aaload, 1) := by decide +kernel
theorem dX4_readOn_68 : decode cX4_readOn 68 = .ok (.getfield 141, 3) := by decide +kernel
theorem dX4_readOn_71 : decode cX4_readOn 71 = .ok (.istore_n 3, 1) := by decide +kernel
theorem dX4_readOn_72 : decode cX4_readOn 72 = .ok (.aload_n 0, 1) := by decide +kernel
theorem dX4_readOn_73 : decode cX4_readOn 73 = .ok (.getfield 28, 3) := by decide +kernel
theorem dX4_readOn_76 : decode cX4_readOn 76 = .ok (.iload_n 2, 1) := by decide +kernel
theorem dX4_readOn_77 : decode cX4_readOn 77 = .ok (.invokevirtual 144, 3) := by decide +kernel
theorem dX4_readOn_80 : decode cX4_readOn 80 = .ok (.ifCond .eq 16, 3) := by decide +kernel
theorem dX4_readOn_83 : decode cX4_readOn 83 = .ok (.aload_n 0, 1) := by decide +kernel
theorem dX4_readOn_84 : decode cX4_readOn 84 = .ok (.getfield 28, 3) := by decide +kernel
theorem dX4_readOn_87 : decode cX4_readOn 87 = .ok (.iload_n 1, 1) := by decide +kernel
theorem dX4_readOn_88 : decode cX4_readOn 88 = .ok (.iload_n 2, 1) := by decide +kernel
theorem dX4_readOn_89 : decode cX4_readOn 89 = .ok (.iload_n 3, 1) := by decide +kernel
theorem dX4_readOn_90 : decode cX4_readOn 90 = .ok (.invokevirtual 147, 3) := by decide +kernel
theorem dX4_readOn_93 : decode cX4_readOn 93 = .ok (.ifCond .ne 12, 3) := by decide +kernel
theorem dX4_readOn_96 : decode cX4_readOn 96 = .ok (.aload_n 0, 1) := by decide +kernel
theorem dX4_readOn_97 : decode cX4_readOn 97 = .ok (.aload_n 0, 1) := by decide +kernel
theorem dX4_readOn_98 : decode cX4_readOn 98 = .ok (.getfield 21, 3) := by decide +kernel
theorem dX4_readOn_101 : decode cX4_readOn 101 = .ok (.invokevirtual 80, 3) := by decide +kernel
theorem dX4_readOn_104 : decode cX4_readOn 104 = .ok (.ireturn, 1) := by decide +kernel
theorem dX4_readOn_105 : decode cX4_readOn 105 = .ok (.aload_n 0, 1) := by decide +kernel
theorem dX4_readOn_106 : decode cX4_readOn 106 = .ok (.getfield 28, 3) := by decide +kernel
theorem dX4_readOn_109 : decode cX4_readOn 109 = .ok (.getfield 132, 3) := by decide +kernel
theorem dX4_readOn_112 : decode cX4_readOn 112 = .ok (.iload_n 1, 1) := by decide +kernel
theorem dX4_readOn_113 : decode cX4_readOn 113 = .ok (.aaload, 1) := by decide +kernel
theorem dX4_readOn_114 : decode cX4_readOn 114 = .ok (.iload_n 2, 1) := by decide +kernel
theorem dX4_readOn_115 : decode cX4_readOn 115 = .ok (.iload_n 3, 1) := by decide +kernel
theorem dX4_readOn_116 : decode cX4_readOn 116 = .ok (.invokevirtual 151, 3) := by decide +kernel
theorem dX4_readOn_119 : decode cX4_readOn 119 = .ok (.iconst 1, 1) := by decide +kernel
theorem dX4_readOn_120 : decode cX4_readOn 120 = .ok (.ireturn, 1) := by decide +kernel
theorem dX4_readOff_0 : decode cX4_readOff 0 = .ok (.aload_n 0, 1) := by decide +kernel
theorem dX4_readOff_1 : decode cX4_readOff 1 = .ok (.invokevirtual 126, 3) := by decide +kernel
theorem dX4_readOff_4 : decode cX4_readOff 4 = .ok (.istore_n 1, 1) := by decide +kernel
theorem dX4_readOff_5 : decode cX4_readOff 5 = .ok (.iload_n 1, 1) := by decide +kernel
theorem dX4_readOff_6 : decode cX4_readOff 6 = .ok (.iconst (-1), 1) := by decide +kernel
theorem dX4_readOff_7 : decode cX4_readOff 7 = .ok (.if_icmp .ne 5, 3) := by decide +kernel
theorem dX4_readOff_10 : decode cX4_readOff 10 = .ok (.iconst 0, 1) := by decide +kernel
theorem dX4_readOff_11 : decode cX4_readOff 11 = .ok (.ireturn, 1) := by decide +kernel
theorem dX4_readOff_12 : decode cX4_readOff 12 = .ok (.aload_n 0, 1) := by decide +kernel
theorem dX4_readOff_13 : decode cX4_readOff 13 = .ok (.getfield 28, 3) := by decide +kernel
theorem dX4_readOff_16 : decode cX4_readOff 16 = .ok (.iload_n 1, 1) := by decide +kernel
theorem dX4_readOff_17 : decode cX4_readOff 17 = .ok (.invokevirtual 129, 3) := by decide +kernel
theorem dX4_readOff_20 : decode cX4_readOff 20 = .ok (.ifCond .eq 18, 3) := by decide +kernel
theorem dX4_readOff_23 : decode cX4_readOff 23 = .ok (.aload_n 0, 1) := by decide +kernel
theorem dX4_readOff_24 : decode cX4_readOff 24 = .ok (.getfield 28, 3) := by decide +kernel
theorem dX4_readOff_27 : decode cX4_readOff 27 = .ok (.getfield 132, 3) := by decide +kernel
theorem dX4_readOff_30 : decode cX4_readOff 30 = .ok (.iload_n 1, 1) := by decide +kernel
theorem dX4_readOff_31 : decode cX4_readOff 31 = .ok (.aaload, 1) := by decide +kernel
theorem dX4_readOff_32 : decode cX4_readOff 32 = .ok (.invokevirtual 136, 3) := by decide +kernel
theorem dX4_readOff_35 : decode cX4_readOff 35 = .ok (.ifCond .eq 12, 3) := by decide +kernel
theorem dX4_readOff_38 : decode cX4_readOff 38 = .ok (.aload_n 0, 1) := by decide +kernel
theorem dX4_readOff_39 : decode cX4_readOff 39 = .ok (.aload_n 0, 1) := by decide +kernel
theorem dX4_readOff_40 : decode cX4_readOff 40 = .ok (.getfield 21, 3) := by decide +kernel
theorem dX4_readOff_43 : decode cX4_readOff 43 = .ok (.invokevirtual 80, 3) := by decide +kernel
theorem dX4_readOff_46 : decode cX4_readOff 46 = .ok (.ireturn, 1) := by decide +kernel
theorem dX4_readOff_47 : decode cX4_readOff 47 = .ok (.aload_n 0, 1) := by decide +kernel
theorem dX4_readOff_48 : decode cX4_readOff 48 = .ok (.getfield 28, 3) := by decide +kernel
theorem dX4_readOff_51 : decode cX4_readOff 51 = .ok (.getfield 132, 3) := by decide +kernel
theorem dX4_readOff_54 : decode cX4_readOff 54 = .ok (.iload_n 1, 1) := by decide +kernel
theorem dX4_readOff_55 : decode cX4_readOff 55 = .ok (.aaload, 1) := by decide +kernel
theorem dX4_readOff_56 : decode cX4_readOff 56 = .ok (.invokevirtual 155, 3) := by decide +kernel
theorem dX4_readOff_59 : decode cX4_readOff 59 = .ok (.iconst 1, 1) := by decide +kernel
theorem dX4_readOff_60 : decode cX4_readOff 60 = .ok (.ireturn, 1) := by decide +kernel
theorem dX4_readLies_0 : decode cX4_readLies 0 = .ok (.aload_n 0, 1) := by decide +kernel
theorem dX4_readLies_1 : decode cX4_readLies 1 = .ok (.invokevirtual 126, 3) := by decide +kernel
theorem dX4_readLies_4 : decode cX4_readLies 4 = .ok (.istore_n 1, 1) := by decide +kernel
theorem dX4_readLies_5 : decode cX4_readLies 5 = .ok (.iload_n 1, 1) := by decide +kernel
theorem dX4_readLies_6 : decode cX4_readLies 6 = .ok (.iconst (-1), 1) := by decide +kernel
theorem dX4_readLies_7 : decode cX4_readLies 7 = .ok (.if_icmp .ne 5, 3) := by decide +kernel
theorem dX4_readLies_10 : decode cX4_readLies 10 = .ok (.iconst 0, 1) := by decide +kernel
theorem dX4_readLies_11 : decode cX4_readLies 11 = .ok (.ireturn, 1) := by decide +kernel
theorem dX4_readLies_12 : decode cX4_readLies 12 = .ok (.aload_n 0, 1) := by decide +kernel
theorem dX4_readLies_13 : decode cX4_readLies 13 = .ok (.getfield 28, 3) := by decide +kernel
theorem dX4_readLies_16 : decode cX4_readLies 16 = .ok (.iload_n 1, 1) := by decide +kernel
theorem dX4_readLies_17 : decode cX4_readLies 17 = .ok (.invokevirtual 144, 3) := by decide +kernel
theorem dX4_readLies_20 : decode cX4_readLies 20 = .ok (.ifCond .ne 12, 3) := by decide +kernel
theorem dX4_readLies_23 : decode cX4_readLies 23 = .ok (.aload_n 0, 1) := by decide +kernel
theorem dX4_readLies_24 : decode cX4_readLies 24 = .ok (.aload_n 0, 1) := by decide +kernel
theorem dX4_readLies_25 : decode cX4_readLies 25 = .ok (.getfield 21, 3) := by decide +kernel
theorem dX4_readLies_28 : decode cX4_readLies 28 = .ok (.invokevirtual 80, 3) := by decide +kernel
theorem dX4_readLies_31 : decode cX4_readLies 31 = .ok (.ireturn, 1) := by decide +kernel
theorem dX4_readLies_32 : decode cX4_readLies 32 = .ok (.aload_n 0, 1) := by decide +kernel
theorem dX4_readLies_33 : decode cX4_readLies 33 = .ok (.invokevirtual 126, 3) := by decide +kernel
theorem dX4_readLies_36 : decode cX4_readLies 36 = .ok (.istore_n 2, 1) := by decide +kernel
theorem dX4_readLies_37 : decode cX4_readLies 37 = .ok (.iload_n 2, 1) := by decide +kernel
theorem dX4_readLies_38 : decode cX4_readLies 38 = .ok (.iconst (-1), 1) := by decide +kernel
theorem dX4_readLies_39 : decode cX4_readLies 39 = .ok (.if_icmp .ne 5, 3) := by decide +kernel
theorem dX4_readLies_42 : decode cX4_readLies 42 = .ok (.iconst 0, 1) := by decide +kernel
theorem dX4_readLies_43 : decode cX4_readLies 43 = .ok (.ireturn, 1) := by decide +kernel
theorem dX4_readLies_44 : decode cX4_readLies 44 = .ok (.aload_n 0, 1) := by decide +kernel
theorem dX4_readLies_45 : decode cX4_readLies 45 = .ok (.getfield 28, 3) := by decide +kernel
theorem dX4_readLies_48 : decode cX4_readLies 48 = .ok (.getfield 158, 3) := by decide +kernel
theorem dX4_readLies_51 : decode cX4_readLies 51 = .ok (.iload_n 1, 1) := by decide +kernel
theorem dX4_readLies_52 : decode cX4_readLies 52 = .ok (.aaload, 1) := by decide +kernel
theorem dX4_readLies_53 : decode cX4_readLies 53 = .ok (.iload_n 2, 1) := by decide +kernel
theorem dX4_readLies_54 : decode cX4_readLies 54 = .ok (.putfield 162, 3) := by decide +kernel
theorem dX4_readLies_57 : decode cX4_readLies 57 = .ok (.iconst 1, 1) := by decide +kernel
theorem dX4_readLies_58 : decode cX4_readLies 58 = .ok (.ireturn, 1) := by decide +kernel
theorem dX4_readNumbers_0 : decode cX4_readNumbers 0 = .ok (.iconst 0, 1) := by decide +kernel
theorem dX4_readNumbers_1 : decode cX4_readNumbers 1 = .ok (.istore_n 3, 1) := by decide +kernel
theorem dX4_readNumbers_2 : decode cX4_readNumbers 2 = .ok (.iload_n 3, 1) := by decide +kernel
theorem dX4_readNumbers_3 : decode cX4_readNumbers 3 = .ok (.aload_n 2, 1) := by decide +kernel
theorem dX4_readNumbers_4 : decode cX4_readNumbers 4 = .ok (.arraylength, 1) := by decide +kernel
theorem dX4_readNumbers_5 : decode cX4_readNumbers 5 = .ok (.if_icmp .ge 71, 3) := by decide +kernel
theorem dX4_readNumbers_8 : decode cX4_readNumbers 8 = .ok (.iload_n 3, 1) := by decide +kernel
theorem dX4_readNumbers_9 : decode cX4_readNumbers 9 = .ok (.aload_n 1, 1) := by decide +kernel
theorem dX4_readNumbers_10 : decode cX4_readNumbers 10 = .ok (.arraylength, 1) := by decide +kernel
theorem dX4_readNumbers_11 : decode cX4_readNumbers 11 = .ok (.if_icmp .ge 65, 3) := by decide +kernel
theorem dX4_readNumbers_14 : decode cX4_readNumbers 14 = .ok (.iload_n 3, 1) := by decide +kernel
theorem dX4_readNumbers_15 : decode cX4_readNumbers 15 = .ok (.aload_n 0, 1) := by decide +kernel
theorem dX4_readNumbers_16 : decode cX4_readNumbers 16 = .ok (.getfield 24, 3) := by decide +kernel
theorem dX4_readNumbers_19 : decode cX4_readNumbers 19 = .ok (.arraylength, 1) := by decide +kernel
theorem dX4_readNumbers_20 : decode cX4_readNumbers 20 = .ok (.if_icmp .ge 56, 3) := by decide +kernel
theorem dX4_readNumbers_23 : decode cX4_readNumbers 23 = .ok (.aload_n 0, 1) := by decide +kernel
theorem dX4_readNumbers_24 : decode cX4_readNumbers 24 = .ok (.invokevirtual 126, 3) := by decide +kernel
theorem dX4_readNumbers_27 : decode cX4_readNumbers 27 = .ok (.istore 4, 2) := by decide +kernel
theorem dX4_readNumbers_29 : decode cX4_readNumbers 29 = .ok (.iload 4, 2) := by decide +kernel
theorem dX4_readNumbers_31 : decode cX4_readNumbers 31 = .ok (.iconst (-1), 1) := by decide +kernel
theorem dX4_readNumbers_32 : decode cX4_readNumbers 32 = .ok (.if_icmp .ne 5, 3) := by decide +kernel
theorem dX4_readNumbers_35 : decode cX4_readNumbers 35 = .ok (.iconst 0, 1) := by decide +kernel
theorem dX4_readNumbers_36 : decode cX4_readNumbers 36 = .ok (.ireturn, 1) := by decide +kernel
theorem dX4_readNumbers_37 : decode cX4_readNumbers 37 = .ok (.iload 4, 2) := by decide +kernel
theorem dX4_readNumbers_39 : decode cX4_readNumbers 39 = .ok (.aload_n 1, 1) := by decide +kernel
theorem dX4_readNumbers_40 : decode cX4_readNumbers 40 = .ok (.iload_n 3, 1) := by decide +kernel
theorem dX4_readNumbers_41 : decode cX4_readNumbers 41 = .ok (.iaload, 1) := by decide +kernel
theorem dX4_readNumbers_42 : decode cX4_readNumbers 42 = .ok (.if_icmp .lt 11, 3) := by decide +kernel
theorem dX4_readNumbers_45 : decode cX4_readNumbers 45 = .ok (.iload 4, 2) := by decide +kernel
theorem dX4_readNumbers_47 : decode cX4_readNumbers 47 = .ok (.aload_n 2, 1) := by decide +kernel
theorem dX4_readNumbers_48 : decode cX4_readNumbers 48 = .ok (.iload_n 3, 1) := by decide +kernel
theorem dX4_readNumbers_49 : decode cX4_readNumbers 49 = .ok (.iaload, 1) := by decide +kernel
theorem dX4_readNumbers_50 : decode cX4_readNumbers 50 = .ok (.if_icmp .le 12, 3) := by decide +kernel
theorem dX4_readNumbers_53 : decode cX4_readNumbers 53 = .ok (.aload_n 0, 1) := by decide +kernel
theorem dX4_readNumbers_54 : decode cX4_readNumbers 54 = .ok (.aload_n 0, 1) := by decide +kernel
theorem dX4_readNumbers_55 : decode cX4_readNumbers 55 = .ok (.getfield 21, 3) := by decide +kernel
theorem dX4_readNumbers_58 : decode cX4_readNumbers 58 = .ok (.invokevirtual 80, 3) := by decide +kernel
theorem dX4_readNumbers_61 : decode cX4_readNumbers 61 = .ok (.ireturn, 1) := by decide +kernel
theorem dX4_readNumbers_62 : decode cX4_readNumbers 62 = .ok (.aload_n 0, 1) := by decide +kernel
theorem dX4_readNumbers_63 : decode cX4_readNumbers 63 = .ok (.getfield 24, 3) := by decide +kernel
theorem dX4_readNumbers_66 : decode cX4_readNumbers 66 = .ok (.iload_n 3, 1) := by decide +kernel
theorem dX4_readNumbers_67 : decode cX4_readNumbers 67 = .ok (.iload 4, 2) := by decide +kernel
theorem dX4_readNumbers_69 : decode cX4_readNumbers 69 = .ok (.iastore, 1) := by decide +kernel
theorem dX4_readNumbers_70 : decode cX4_readNumbers 70 = .ok (.iinc 3 1, 3) := by decide +kernel
theorem dX4_readNumbers_73 : decode cX4_readNumbers 73 = .ok (.goto (-71), 3) := by decide +kernel
theorem dX4_readNumbers_76 : decode cX4_readNumbers 76 = .ok (.iconst 1, 1) := by decide +kernel
theorem dX4_readNumbers_77 : decode cX4_readNumbers 77 = .ok (.ireturn, 1) := by decide +kernel
theorem dX4_readNumber_0 : decode cX4_readNumber 0 = .ok (.aload_n 0, 1) := by decide +kernel
theorem dX4_readNumber_1 : decode cX4_readNumber 1 = .ok (.getfield 32, 3) := by decide +kernel
theorem dX4_readNumber_4 : decode cX4_readNumber 4 = .ok (.aload_n 0, 1) := by decide +kernel
theorem dX4_readNumber_5 : decode cX4_readNumber 5 = .ok (.getfield 15, 3) := by decide +kernel
theorem dX4_readNumber_8 : decode cX4_readNumber 8 = .ok (.invokevirtual 51, 3) := by decide +kernel
theorem dX4_readNumber_11 : decode cX4_readNumber 11 = .ok (.bipush 32, 2) := by decide +kernel
theorem dX4_readNumber_13 : decode cX4_readNumber 13 = .ok (.if_icmp .eq 14, 3) := by decide +kernel
theorem dX4_readNumber_16 : decode cX4_readNumber 16 = .ok (.aload_n 0, 1) := by decide +kernel
theorem dX4_readNumber_17 : decode cX4_readNumber 17 = .ok (.aload_n 0, 1) := by decide +kernel
theorem dX4_readNumber_18 : decode cX4_readNumber 18 = .ok (.getfield 15, 3) := by decide +kernel
theorem dX4_readNumber_21 : decode cX4_readNumber 21 = .ok (.invokevirtual 80, 3) := by decide +kernel
theorem dX4_readNumber_24 : decode cX4_readNumber 24 = .ok (.pop, 1) := by decide +kernel
theorem dX4_readNumber_25 : decode cX4_readNumber 25 = .ok (.iconst (-1), 1) := by decide +kernel
theorem dX4_readNumber_26 : decode cX4_readNumber 26 = .ok (.ireturn, 1) := by decide +kernel
theorem dX4_readNumber_27 : decode cX4_readNumber 27 = .ok (.aload_n 0, 1) := by decide +kernel
theorem dX4_readNumber_28 : decode cX4_readNumber 28 = .ok (.dup, 1) := by decide +kernel
theorem dX4_readNumber_29 : decode cX4_readNumber 29 = .ok (.getfield 15, 3) := by decide +kernel
theorem dX4_readNumber_32 : decode cX4_readNumber 32 = .ok (.iconst 1, 1) := by decide +kernel
theorem dX4_readNumber_33 : decode cX4_readNumber 33 = .ok (.iadd, 1) := by decide +kernel
theorem dX4_readNumber_34 : decode cX4_readNumber 34 = .ok (.putfield 15, 3) := by decide +kernel
theorem dX4_readNumber_37 : decode cX4_readNumber 37 = .ok (.aload_n 0, 1) := by decide +kernel
theorem dX4_readNumber_38 : decode cX4_readNumber 38 = .ok (.aload_n 0, 1) := by decide +kernel
theorem dX4_readNumber_39 : decode cX4_readNumber 39 = .ok (.getfield 15, 3) := by decide +kernel
theorem dX4_readNumber_42 : decode cX4_readNumber 42 = .ok (.putfield 21, 3) := by decide +kernel
theorem dX4_readNumber_45 : decode cX4_readNumber 45 = .ok (.aload_n 0, 1) := by decide +kernel
theorem dX4_readNumber_46 : decode cX4_readNumber 46 = .ok (.getfield 32, 3) := by decide +kernel
theorem dX4_readNumber_49 : decode cX4_readNumber 49 = .ok (.aload_n 0, 1) := by decide +kernel
theorem dX4_readNumber_50 : decode cX4_readNumber 50 = .ok (.getfield 15, 3) := by decide +kernel
theorem dX4_readNumber_53 : decode cX4_readNumber 53 = .ok (.invokevirtual 51, 3) := by decide +kernel
theorem dX4_readNumber_56 : decode cX4_readNumber 56 = .ok (.invokestatic 167, 3) := by decide +kernel
theorem dX4_readNumber_59 : decode cX4_readNumber 59 = .ok (.istore_n 1, 1) := by decide +kernel
theorem dX4_readNumber_60 : decode cX4_readNumber 60 = .ok (.iload_n 1, 1) := by decide +kernel
theorem dX4_readNumber_61 : decode cX4_readNumber 61 = .ok (.iconst (-1), 1) := by decide +kernel
theorem dX4_readNumber_62 : decode cX4_readNumber 62 = .ok (.if_icmp .ne 14, 3) := by decide +kernel
theorem dX4_readNumber_65 : decode cX4_readNumber 65 = .ok (.aload_n 0, 1) := by decide +kernel
theorem dX4_readNumber_66 : decode cX4_readNumber 66 = .ok (.aload_n 0, 1) := by decide +kernel
theorem dX4_readNumber_67 : decode cX4_readNumber 67 = .ok (.getfield 15, 3) := by decide +kernel
theorem dX4_readNumber_70 : decode cX4_readNumber 70 = .ok (.invokevirtual 80, 3) := by decide +kernel
theorem dX4_readNumber_73 : decode cX4_readNumber 73 = .ok (.pop, 1) := by decide +kernel
theorem dX4_readNumber_74 : decode cX4_readNumber 74 = .ok (.iconst (-1), 1) := by decide +kernel
theorem dX4_readNumber_75 : decode cX4_readNumber 75 = .ok (.ireturn, 1) := by decide +kernel
theorem dX4_readNumber_76 : decode cX4_readNumber 76 = .ok (.aload_n 0, 1) := by decide +kernel
theorem dX4_readNumber_77 : decode cX4_readNumber 77 = .ok (.dup, 1) := by decide +kernel
theorem dX4_readNumber_78 : decode cX4_readNumber 78 = .ok (.getfield 15, 3) := by decide +kernel
theorem dX4_readNumber_81 : decode cX4_readNumber 81 = .ok (.iconst 1, 1) := by decide +kernel
theorem dX4_readNumber_82 : decode cX4_readNumber 82 = .ok (.iadd, 1) := by decide +kernel
theorem dX4_readNumber_83 : decode cX4_readNumber 83 = .ok (.putfield 15, 3) := by decide +kernel
theorem dX4_readNumber_86 : decode cX4_readNumber 86 = .ok (.aload_n 0, 1) := by decide +kernel
theorem dX4_readNumber_87 : decode cX4_readNumber 87 = .ok (.getfield 32, 3) := by decide +kernel
theorem dX4_readNumber_90 : decode cX4_readNumber 90 = .ok (.aload_n 0, 1) := by decide +kernel
theorem dX4_readNumber_91 : decode cX4_readNumber 91 = .ok (.getfield 15, 3) := by decide +kernel
theorem dX4_readNumber_94 : decode cX4_readNumber 94 = .ok (.invokevirtual 51, 3) := by decide +kernel
theorem dX4_readNumber_97 : decode cX4_readNumber 97 = .ok (.invokestatic 167, 3) := by decide +kernel
theorem dX4_readNumber_100 : decode cX4_readNumber 100 = .ok (.istore_n 2, 1) := by decide +kernel
theorem dX4_readNumber_101 : decode cX4_readNumber 101 = .ok (.iload_n 2, 1) := by decide +kernel
theorem dX4_readNumber_102 : decode cX4_readNumber 102 = .ok (.iconst (-1), 1) := by decide +kernel
theorem dX4_readNumber_103 : decode cX4_readNumber 103 = .ok (.if_icmp .ne 5, 3) := by decide +kernel
theorem dX4_readNumber_106 : decode cX4_readNumber 106 = .ok (.iload_n 1, 1) := by decide +kernel
theorem dX4_readNumber_107 : decode cX4_readNumber 107 = .ok (.ireturn, 1) := by decide +kernel
theorem dX4_readNumber_108 : decode cX4_readNumber 108 = .ok (.aload_n 0, 1) := by decide +kernel
theorem dX4_readNumber_109 : decode cX4_readNumber 109 = .ok (.dup, 1) := by decide +kernel
theorem dX4_readNumber_110 : decode cX4_readNumber 110 = .ok (.getfield 15, 3) := by decide +kernel
theorem dX4_readNumber_113 : decode cX4_readNumber 113 = .ok (.iconst 1, 1) := by decide +kernel
theorem dX4_readNumber_114 : decode cX4_readNumber 114 = .ok (.iadd, 1) := by decide +kernel
theorem dX4_readNumber_115 : decode cX4_readNumber 115 = .ok (.putfield 15, 3) := by decide +kernel
theorem dX4_readNumber_118 : decode cX4_readNumber 118 = .ok (.bipush 10, 2) := by decide +kernel
theorem dX4_readNumber_120 : decode cX4_readNumber 120 = .ok (.iload_n 1, 1) := by decide +kernel
theorem dX4_readNumber_121 : decode cX4_readNumber 121 = .ok (.imul, 1) := by decide +kernel
theorem dX4_readNumber_122 : decode cX4_readNumber 122 = .ok (.iload_n 2, 1) := by decide +kernel
theorem dX4_readNumber_123 : decode cX4_readNumber 123 = .ok (.iadd, 1) := by decide +kernel
theorem dX4_readNumber_124 : decode cX4_readNumber 124 = .ok (.ireturn, 1) := by decide +kernel
theorem dX4_digitOf_0 : decode cX4_digitOf 0 = .ok (.iload_n 0, 1) := by decide +kernel
theorem dX4_digitOf_1 : decode cX4_digitOf 1 = .ok (.bipush 48, 2) := by decide +kernel
theorem dX4_digitOf_3 : decode cX4_digitOf 3 = .ok (.if_icmp .lt 16, 3) := by decide +kernel
theorem dX4_digitOf_6 : decode cX4_digitOf 6 = .ok (.iload_n 0, 1) := by decide +kernel
theorem dX4_digitOf_7 : decode cX4_digitOf 7 = .ok (.bipush 57, 2) := by decide +kernel
theorem dX4_digitOf_9 : decode cX4_digitOf 9 = .ok (.if_icmp .gt 10, 3) := by decide +kernel
theorem dX4_digitOf_12 : decode cX4_digitOf 12 = .ok (.iload_n 0, 1) := by decide +kernel
theorem dX4_digitOf_13 : decode cX4_digitOf 13 = .ok (.bipush 48, 2) := by decide +kernel
theorem dX4_digitOf_15 : decode cX4_digitOf 15 = .ok (.isub, 1) := by decide +kernel
theorem dX4_digitOf_16 : decode cX4_digitOf 16 = .ok (.goto 4, 3) := by decide +kernel
theorem dX4_digitOf_19 : decode cX4_digitOf 19 = .ok (.iconst (-1), 1) := by decide +kernel
theorem dX4_digitOf_20 : decode cX4_digitOf 20 = .ok (.ireturn, 1) := by decide +kernel
theorem dX5_init_0 : decode cX5_init 0 = .ok (.aload_n 0, 1) := by decide +kernel
theorem dX5_init_1 : decode cX5_init 1 = .ok (.invokespecial 3, 3) := by decide +kernel
theorem dX5_init_4 : decode cX5_init 4 = .ok (.aload_n 0, 1) := by decide +kernel
theorem dX5_init_5 : decode cX5_init 5 = .ok (.sipush 160, 3) := by decide +kernel
theorem dX5_init_8 : decode cX5_init 8 = .ok (.newarray .long, 2) := by decide +kernel
theorem dX5_init_10 : decode cX5_init 10 = .ok (.putfield 11, 3) := by decide +kernel
theorem dX5_init_13 : decode cX5_init 13 = .ok (.aload_n 0, 1) := by decide +kernel
theorem dX5_init_14 : decode cX5_init 14 = .ok (.iconst (-1), 1) := by decide +kernel
theorem dX5_init_15 : decode cX5_init 15 = .ok (.putfield 15, 3) := by decide +kernel
theorem dX5_init_18 : decode cX5_init 18 = .ok (.aload_n 0, 1) := by decide +kernel
theorem dX5_init_19 : decode cX5_init 19 = .ok (.iconst 0, 1) := by decide +kernel
theorem dX5_init_20 : decode cX5_init 20 = .ok (.putfield 19, 3) := by decide +kernel
theorem dX5_init_23 : decode cX5_init 23 = .ok (.aload_n 0, 1) := by decide +kernel
theorem dX5_init_24 : decode cX5_init 24 = .ok (.iconst (-1), 1) := by decide +kernel
theorem dX5_init_25 : decode cX5_init 25 = .ok (.putfield 22, 3) := by decide +kernel
theorem dX5_init_28 : decode cX5_init 28 = .ok (.return_, 1) := by decide +kernel
theorem dX5_holdNothing_0 : decode cX5_holdNothing 0 = .ok (.aload_n 0, 1) := by decide +kernel
theorem dX5_holdNothing_1 : decode cX5_holdNothing 1 = .ok (.iconst (-1), 1) := by decide +kernel
theorem dX5_holdNothing_2 : decode cX5_holdNothing 2 = .ok (.putfield 15, 3) := by decide +kernel
theorem dX5_holdNothing_5 : decode cX5_holdNothing 5 = .ok (.aload_n 0, 1) := by decide +kernel
theorem dX5_holdNothing_6 : decode cX5_holdNothing 6 = .ok (.iconst 0, 1) := by decide +kernel
theorem dX5_holdNothing_7 : decode cX5_holdNothing 7 = .ok (.putfield 19, 3) := by decide +kernel
theorem dX5_holdNothing_10 : decode cX5_holdNothing 10 = .ok (.aload_n 0, 1) := by decide +kernel
theorem dX5_holdNothing_11 : decode cX5_holdNothing 11 = .ok (.iconst (-1), 1) := by decide +kernel
theorem dX5_holdNothing_12 : decode cX5_holdNothing 12 = .ok (.putfield 22, 3) := by decide +kernel
theorem dX5_holdNothing_15 : decode cX5_holdNothing 15 = .ok (.return_, 1) := by decide +kernel
theorem dX5_holdArm_0 : decode cX5_holdArm 0 = .ok (.aload_n 0, 1) := by decide +kernel
theorem dX5_holdArm_1 : decode cX5_holdArm 1 = .ok (.invokevirtual 25, 3) := by decide +kernel
theorem dX5_holdArm_4 : decode cX5_holdArm 4 = .ok (.aload_n 0, 1) := by decide +kernel
theorem dX5_holdArm_5 : decode cX5_holdArm 5 = .ok (.iload_n 1, 1) := by decide +kernel
theorem dX5_holdArm_6 : decode cX5_holdArm 6 = .ok (.putfield 22, 3) := by decide +kernel
theorem dX5_holdArm_9 : decode cX5_holdArm 9 = .ok (.return_, 1) := by decide +kernel
theorem dX5_holdRow_0 : decode cX5_holdRow 0 = .ok (.aload_n 0, 1) := by decide +kernel
theorem dX5_holdRow_1 : decode cX5_holdRow 1 = .ok (.invokevirtual 25, 3) := by decide +kernel
theorem dX5_holdRow_4 : decode cX5_holdRow 4 = .ok (.aload_n 0, 1) := by decide +kernel
theorem dX5_holdRow_5 : decode cX5_holdRow 5 = .ok (.iload_n 1, 1) := by decide +kernel
theorem dX5_holdRow_6 : decode cX5_holdRow 6 = .ok (.putfield 15, 3) := by decide +kernel
theorem dX5_holdRow_9 : decode cX5_holdRow 9 = .ok (.aload_n 0, 1) := by decide +kernel
theorem dX5_holdRow_10 : decode cX5_holdRow 10 = .ok (.iload_n 2, 1) := by decide +kernel
theorem dX5_holdRow_11 : decode cX5_holdRow 11 = .ok (.putfield 19, 3) := by decide +kernel
theorem dX5_holdRow_14 : decode cX5_holdRow 14 = .ok (.iconst 0, 1) := by decide +kernel
theorem dX5_holdRow_15 : decode cX5_holdRow 15 = .ok (.istore_n 3, 1) := by decide +kernel
theorem dX5_holdRow_16 : decode cX5_holdRow 16 = .ok (.iload_n 3, 1) := by decide +kernel
theorem dX5_holdRow_17 : decode cX5_holdRow 17 = .ok (.sipush 160, 3) := by decide +kernel
theorem dX5_holdRow_20 : decode cX5_holdRow 20 = .ok (.if_icmp .ge 16, 3) := by decide +kernel
theorem dX5_holdRow_23 : decode cX5_holdRow 23 = .ok (.aload_n 0, 1) := by decide +kernel
theorem dX5_holdRow_24 : decode cX5_holdRow 24 = .ok (.getfield 11, 3) := by decide +kernel
theorem dX5_holdRow_27 : decode cX5_holdRow 27 = .ok (.iload_n 3, 1) := by decide +kernel
theorem dX5_holdRow_28 : decode cX5_holdRow 28 = .ok (.lconst 0, 1) := by decide +kernel
theorem dX5_holdRow_29 : decode cX5_holdRow 29 = .ok (.lastore, 1) := by decide +kernel
theorem dX5_holdRow_30 : decode cX5_holdRow 30 = .ok (.iinc 3 1, 3) := by decide +kernel
theorem dX5_holdRow_33 : decode cX5_holdRow 33 = .ok (.goto (-17), 3) := by decide +kernel
theorem dX5_holdRow_36 : decode cX5_holdRow 36 = .ok (.return_, 1) := by decide +kernel
theorem dX5_dropArm_0 : decode cX5_dropArm 0 = .ok (.aload_n 0, 1) := by decide +kernel
theorem dX5_dropArm_1 : decode cX5_dropArm 1 = .ok (.iconst (-1), 1) := by decide +kernel
theorem dX5_dropArm_2 : decode cX5_dropArm 2 = .ok (.putfield 22, 3) := by decide +kernel
theorem dX5_dropArm_5 : decode cX5_dropArm 5 = .ok (.return_, 1) := by decide +kernel
theorem dX5_hasRow_0 : decode cX5_hasRow 0 = .ok (.aload_n 0, 1) := by decide +kernel
theorem dX5_hasRow_1 : decode cX5_hasRow 1 = .ok (.getfield 15, 3) := by decide +kernel
theorem dX5_hasRow_4 : decode cX5_hasRow 4 = .ok (.iconst (-1), 1) := by decide +kernel
theorem dX5_hasRow_5 : decode cX5_hasRow 5 = .ok (.if_icmp .eq 7, 3) := by decide +kernel
theorem dX5_hasRow_8 : decode cX5_hasRow 8 = .ok (.iconst 1, 1) := by decide +kernel
theorem dX5_hasRow_9 : decode cX5_hasRow 9 = .ok (.goto 4, 3) := by decide +kernel
theorem dX5_hasRow_12 : decode cX5_hasRow 12 = .ok (.iconst 0, 1) := by decide +kernel
theorem dX5_hasRow_13 : decode cX5_hasRow 13 = .ok (.ireturn, 1) := by decide +kernel
theorem dX5_hasArm_0 : decode cX5_hasArm 0 = .ok (.aload_n 0, 1) := by decide +kernel
theorem dX5_hasArm_1 : decode cX5_hasArm 1 = .ok (.getfield 22, 3) := by decide +kernel
theorem dX5_hasArm_4 : decode cX5_hasArm 4 = .ok (.iconst (-1), 1) := by decide +kernel
theorem dX5_hasArm_5 : decode cX5_hasArm 5 = .ok (.if_icmp .eq 7, 3) := by decide +kernel
theorem dX5_hasArm_8 : decode cX5_hasArm 8 = .ok (.iconst 1, 1) := by decide +kernel
theorem dX5_hasArm_9 : decode cX5_hasArm 9 = .ok (.goto 4, 3) := by decide +kernel
theorem dX5_hasArm_12 : decode cX5_hasArm 12 = .ok (.iconst 0, 1) := by decide +kernel
theorem dX5_hasArm_13 : decode cX5_hasArm 13 = .ok (.ireturn, 1) := by decide +kernel
theorem dX5_hasElement_0 : decode cX5_hasElement 0 = .ok (.iload_n 1, 1) := by decide +kernel
theorem dX5_hasElement_1 : decode cX5_hasElement 1 = .ok (.ifCond .lt 15, 3) := by decide +kernel
theorem dX5_hasElement_4 : decode cX5_hasElement 4 = .ok (.iload_n 1, 1) := by decide +kernel
theorem dX5_hasElement_5 : decode cX5_hasElement 5 = .ok (.aload_n 0, 1) := by decide +kernel
theorem dX5_hasElement_6 : decode cX5_hasElement 6 = .ok (.getfield 19, 3) := by decide +kernel
theorem dX5_hasElement_9 : decode cX5_hasElement 9 = .ok (.if_icmp .ge 7, 3) := by decide +kernel
theorem dX5_hasElement_12 : decode cX5_hasElement 12 = .ok (.iconst 1, 1) := by decide +kernel
theorem dX5_hasElement_13 : decode cX5_hasElement 13 = .ok (.goto 4, 3) := by decide +kernel
theorem dX5_hasElement_16 : decode cX5_hasElement 16 = .ok (.iconst 0, 1) := by decide +kernel
theorem dX5_hasElement_17 : decode cX5_hasElement 17 = .ok (.ireturn, 1) := by decide +kernel
theorem dX5_hasStretch_0 : decode cX5_hasStretch 0 = .ok (.iload_n 1, 1) := by decide +kernel
theorem dX5_hasStretch_1 : decode cX5_hasStretch 1 = .ok (.ifCond .lt 17, 3) := by decide +kernel
theorem dX5_hasStretch_4 : decode cX5_hasStretch 4 = .ok (.iload_n 1, 1) := by decide +kernel
theorem dX5_hasStretch_5 : decode cX5_hasStretch 5 = .ok (.aload_n 0, 1) := by decide +kernel
theorem dX5_hasStretch_6 : decode cX5_hasStretch 6 = .ok (.getfield 19, 3) := by decide +kernel
theorem dX5_hasStretch_9 : decode cX5_hasStretch 9 = .ok (.iload_n 2, 1) := by decide +kernel
theorem dX5_hasStretch_10 : decode cX5_hasStretch 10 = .ok (.isub, 1) := by decide +kernel
theorem dX5_hasStretch_11 : decode cX5_hasStretch 11 = .ok (.if_icmp .gt 7, 3) := by decide +kernel
theorem dX5_hasStretch_14 : decode cX5_hasStretch 14 = .ok (.iconst 1, 1) := by decide +kernel
theorem dX5_hasStretch_15 : decode cX5_hasStretch 15 = .ok (.goto 4, 3) := by decide +kernel
theorem dX5_hasStretch_18 : decode cX5_hasStretch 18 = .ok (.iconst 0, 1) := by decide +kernel
theorem dX5_hasStretch_19 : decode cX5_hasStretch 19 = .ok (.ireturn, 1) := by decide +kernel
theorem dX5_put_0 : decode cX5_put 0 = .ok (.aload_n 0, 1) := by decide +kernel
theorem dX5_put_1 : decode cX5_put 1 = .ok (.iload_n 1, 1) := by decide +kernel
theorem dX5_put_2 : decode cX5_put 2 = .ok (.invokevirtual 28, 3) := by decide +kernel
theorem dX5_put_5 : decode cX5_put 5 = .ok (.ifCond .ne 4, 3) := by decide +kernel
theorem dX5_put_8 : decode cX5_put 8 = .ok (.return_, 1) := by decide +kernel
theorem dX5_put_9 : decode cX5_put 9 = .ok (.aload_n 0, 1) := by decide +kernel
theorem dX5_put_10 : decode cX5_put 10 = .ok (.getfield 15, 3) := by decide +kernel
theorem dX5_put_13 : decode cX5_put 13 = .ok (.tableswitch 65 0 2 #[27, 40, 53], 27) := by decide +kernel
theorem dX5_put_40 : decode cX5_put 40 = .ok (.aload_n 0, 1) := by decide +kernel
theorem dX5_put_41 : decode cX5_put 41 = .ok (.getfield 11, 3) := by decide +kernel
theorem dX5_put_44 : decode cX5_put 44 = .ok (.iload_n 1, 1) := by decide +kernel
theorem dX5_put_45 : decode cX5_put 45 = .ok (.lload_n 2, 1) := by decide +kernel
theorem dX5_put_46 : decode cX5_put 46 = .ok (.l2i, 1) := by decide +kernel
theorem dX5_put_47 : decode cX5_put 47 = .ok (.i2b, 1) := by decide +kernel
theorem dX5_put_48 : decode cX5_put 48 = .ok (.i2l, 1) := by decide +kernel
theorem dX5_put_49 : decode cX5_put 49 = .ok (.lastore, 1) := by decide +kernel
theorem dX5_put_50 : decode cX5_put 50 = .ok (.goto 35, 3) := by decide +kernel
theorem dX5_put_53 : decode cX5_put 53 = .ok (.aload_n 0, 1) := by decide +kernel
theorem dX5_put_54 : decode cX5_put 54 = .ok (.getfield 11, 3) := by decide +kernel
theorem dX5_put_57 : decode cX5_put 57 = .ok (.iload_n 1, 1) := by decide +kernel
theorem dX5_put_58 : decode cX5_put 58 = .ok (.lload_n 2, 1) := by decide +kernel
theorem dX5_put_59 : decode cX5_put 59 = .ok (.l2i, 1) := by decide +kernel
theorem dX5_put_60 : decode cX5_put 60 = .ok (.i2s, 1) := by decide +kernel
theorem dX5_put_61 : decode cX5_put 61 = .ok (.i2l, 1) := by decide +kernel
theorem dX5_put_62 : decode cX5_put 62 = .ok (.lastore, 1) := by decide +kernel
theorem dX5_put_63 : decode cX5_put 63 = .ok (.goto 22, 3) := by decide +kernel
theorem dX5_put_66 : decode cX5_put 66 = .ok (.aload_n 0, 1) := by decide +kernel
theorem dX5_put_67 : decode cX5_put 67 = .ok (.getfield 11, 3) := by decide +kernel
theorem dX5_put_70 : decode cX5_put 70 = .ok (.iload_n 1, 1) := by decide +kernel
theorem dX5_put_71 : decode cX5_put 71 = .ok (.lload_n 2, 1) := by decide +kernel
theorem dX5_put_72 : decode cX5_put 72 = .ok (.l2i, 1) := by decide +kernel
theorem dX5_put_73 : decode cX5_put 73 = .ok (.i2l, 1) := by decide +kernel
theorem dX5_put_74 : decode cX5_put 74 = .ok (.lastore, 1) := by decide +kernel
theorem dX5_put_75 : decode cX5_put 75 = .ok (.goto 10, 3) := by decide +kernel
theorem dX5_put_78 : decode cX5_put 78 = .ok (.aload_n 0, 1) := by decide +kernel
theorem dX5_put_79 : decode cX5_put 79 = .ok (.getfield 11, 3) := by decide +kernel
theorem dX5_put_82 : decode cX5_put 82 = .ok (.iload_n 1, 1) := by decide +kernel
theorem dX5_put_83 : decode cX5_put 83 = .ok (.lload_n 2, 1) := by decide +kernel
theorem dX5_put_84 : decode cX5_put 84 = .ok (.lastore, 1) := by decide +kernel
theorem dX5_put_85 : decode cX5_put 85 = .ok (.return_, 1) := by decide +kernel
theorem dX5_read_0 : decode cX5_read 0 = .ok (.iload_n 1, 1) := by decide +kernel
theorem dX5_read_1 : decode cX5_read 1 = .ok (.ifCond .lt 21, 3) := by decide +kernel
theorem dX5_read_4 : decode cX5_read 4 = .ok (.iload_n 1, 1) := by decide +kernel
theorem dX5_read_5 : decode cX5_read 5 = .ok (.aload_n 0, 1) := by decide +kernel
theorem dX5_read_6 : decode cX5_read 6 = .ok (.getfield 19, 3) := by decide +kernel
theorem dX5_read_9 : decode cX5_read 9 = .ok (.if_icmp .ge 13, 3) := by decide +kernel
theorem dX5_read_12 : decode cX5_read 12 = .ok (.aload_n 0, 1) := by decide +kernel
theorem dX5_read_13 : decode cX5_read 13 = .ok (.getfield 11, 3) := by decide +kernel
theorem dX5_read_16 : decode cX5_read 16 = .ok (.iload_n 1, 1) := by decide +kernel
theorem dX5_read_17 : decode cX5_read 17 = .ok (.laload, 1) := by decide +kernel
theorem dX5_read_18 : decode cX5_read 18 = .ok (.l2i, 1) := by decide +kernel
theorem dX5_read_19 : decode cX5_read 19 = .ok (.goto 4, 3) := by decide +kernel
theorem dX5_read_22 : decode cX5_read 22 = .ok (.iconst (-1), 1) := by decide +kernel
theorem dX5_read_23 : decode cX5_read 23 = .ok (.ireturn, 1) := by decide +kernel
theorem dX6_init_0 : decode cX6_init 0 = .ok (.aload_n 0, 1) := by decide +kernel
theorem dX6_init_1 : decode cX6_init 1 = .ok (.invokespecial 3, 3) := by decide +kernel
theorem dX6_init_4 : decode cX6_init 4 = .ok (.aload_n 0, 1) := by decide +kernel
theorem dX6_init_5 : decode cX6_init 5 = .ok (.bipush 8, 2) := by decide +kernel
theorem dX6_init_7 : decode cX6_init 7 = .ok (.anewarray 11, 3) := by decide +kernel
theorem dX6_init_10 : decode cX6_init 10 = .ok (.putfield 13, 3) := by decide +kernel
theorem dX6_init_13 : decode cX6_init 13 = .ok (.aload_n 0, 1) := by decide +kernel
theorem dX6_init_14 : decode cX6_init 14 = .ok (.iconst 5, 1) := by decide +kernel
theorem dX6_init_15 : decode cX6_init 15 = .ok (.anewarray 17, 3) := by decide +kernel
theorem dX6_init_18 : decode cX6_init 18 = .ok (.putfield 19, 3) := by decide +kernel
theorem dX6_init_21 : decode cX6_init 21 = .ok (.aload_n 0, 1) := by decide +kernel
theorem dX6_init_22 : decode cX6_init 22 = .ok (.iconst 0, 1) := by decide +kernel
theorem dX6_init_23 : decode cX6_init 23 = .ok (.putfield 23, 3) := by decide +kernel
theorem dX6_init_26 : decode cX6_init 26 = .ok (.aload_n 0, 1) := by decide +kernel
theorem dX6_init_27 : decode cX6_init 27 = .ok (.iconst 0, 1) := by decide +kernel
theorem dX6_init_28 : decode cX6_init 28 = .ok (.putfield 27, 3) := by decide +kernel
theorem dX6_init_31 : decode cX6_init 31 = .ok (.aload_n 0, 1) := by decide +kernel
theorem dX6_init_32 : decode cX6_init 32 = .ok (.iconst 0, 1) := by decide +kernel
theorem dX6_init_33 : decode cX6_init 33 = .ok (.putfield 30, 3) := by decide +kernel
theorem dX6_init_36 : decode cX6_init 36 = .ok (.aload_n 0, 1) := by decide +kernel
theorem dX6_init_37 : decode cX6_init 37 = .ok (.iconst 0, 1) := by decide +kernel
theorem dX6_init_38 : decode cX6_init 38 = .ok (.putfield 33, 3) := by decide +kernel
theorem dX6_init_41 : decode cX6_init 41 = .ok (.aload_n 0, 1) := by decide +kernel
theorem dX6_init_42 : decode cX6_init 42 = .ok (.iconst 0, 1) := by decide +kernel
theorem dX6_init_43 : decode cX6_init 43 = .ok (.putfield 36, 3) := by decide +kernel
theorem dX6_init_46 : decode cX6_init 46 = .ok (.aload_n 0, 1) := by decide +kernel
theorem dX6_init_47 : decode cX6_init 47 = .ok (.iconst 1, 1) := by decide +kernel
theorem dX6_init_48 : decode cX6_init 48 = .ok (.putfield 39, 3) := by decide +kernel
theorem dX6_init_51 : decode cX6_init 51 = .ok (.iconst 0, 1) := by decide +kernel
theorem dX6_init_52 : decode cX6_init 52 = .ok (.istore_n 1, 1) := by decide +kernel
theorem dX6_init_53 : decode cX6_init 53 = .ok (.iload_n 1, 1) := by decide +kernel
theorem dX6_init_54 : decode cX6_init 54 = .ok (.bipush 8, 2) := by decide +kernel
theorem dX6_init_56 : decode cX6_init 56 = .ok (.if_icmp .ge 22, 3) := by decide +kernel
theorem dX6_init_59 : decode cX6_init 59 = .ok (.aload_n 0, 1) := by decide +kernel
theorem dX6_init_60 : decode cX6_init 60 = .ok (.getfield 13, 3) := by decide +kernel
theorem dX6_init_63 : decode cX6_init 63 = .ok (.iload_n 1, 1) := by decide +kernel
theorem dX6_init_64 : decode cX6_init 64 = .ok (.new 11, 3) := by decide +kernel
theorem dX6_init_67 : decode cX6_init 67 = .ok (.dup, 1) := by decide +kernel
theorem dX6_init_68 : decode cX6_init 68 = .ok (.invokespecial 42, 3) := by decide +kernel
theorem dX6_init_71 : decode cX6_init 71 = .ok (.aastore, 1) := by decide +kernel
theorem dX6_init_72 : decode cX6_init 72 = .ok (.iinc 1 1, 3) := by decide +kernel
theorem dX6_init_75 : decode cX6_init 75 = .ok (.goto (-22), 3) := by decide +kernel
theorem dX6_init_78 : decode cX6_init 78 = .ok (.iconst 0, 1) := by decide +kernel
theorem dX6_init_79 : decode cX6_init 79 = .ok (.istore_n 1, 1) := by decide +kernel
theorem dX6_init_80 : decode cX6_init 80 = .ok (.iload_n 1, 1) := by decide +kernel
theorem dX6_init_81 : decode cX6_init 81 = .ok (.iconst 5, 1) := by decide +kernel
theorem dX6_init_82 : decode cX6_init 82 = .ok (.if_icmp .ge 22, 3) := by decide +kernel
theorem dX6_init_85 : decode cX6_init 85 = .ok (.aload_n 0, 1) := by decide +kernel
theorem dX6_init_86 : decode cX6_init 86 = .ok (.getfield 19, 3) := by decide +kernel
theorem dX6_init_89 : decode cX6_init 89 = .ok (.iload_n 1, 1) := by decide +kernel
theorem dX6_init_90 : decode cX6_init 90 = .ok (.new 17, 3) := by decide +kernel
theorem dX6_init_93 : decode cX6_init 93 = .ok (.dup, 1) := by decide +kernel
theorem dX6_init_94 : decode cX6_init 94 = .ok (.invokespecial 43, 3) := by decide +kernel
theorem dX6_init_97 : decode cX6_init 97 = .ok (.aastore, 1) := by decide +kernel
theorem dX6_init_98 : decode cX6_init 98 = .ok (.iinc 1 1, 3) := by decide +kernel
theorem dX6_init_101 : decode cX6_init 101 = .ok (.goto (-21), 3) := by decide +kernel
theorem dX6_init_104 : decode cX6_init 104 = .ok (.return_, 1) := by decide +kernel
theorem dX6_takeFrom_0 : decode cX6_takeFrom 0 = .ok (.iconst 0, 1) := by decide +kernel
theorem dX6_takeFrom_1 : decode cX6_takeFrom 1 = .ok (.istore_n 2, 1) := by decide +kernel
theorem dX6_takeFrom_2 : decode cX6_takeFrom 2 = .ok (.iload_n 2, 1) := by decide +kernel
theorem dX6_takeFrom_3 : decode cX6_takeFrom 3 = .ok (.aload_n 1, 1) := by decide +kernel
theorem dX6_takeFrom_4 : decode cX6_takeFrom 4 = .ok (.getfield 23, 3) := by decide +kernel
theorem dX6_takeFrom_7 : decode cX6_takeFrom 7 = .ok (.if_icmp .ge 24, 3) := by decide +kernel
theorem dX6_takeFrom_10 : decode cX6_takeFrom 10 = .ok (.aload_n 0, 1) := by decide +kernel
theorem dX6_takeFrom_11 : decode cX6_takeFrom 11 = .ok (.getfield 13, 3) := by decide +kernel
theorem dX6_takeFrom_14 : decode cX6_takeFrom 14 = .ok (.iload_n 2, 1) := by decide +kernel
theorem dX6_takeFrom_15 : decode cX6_takeFrom 15 = .ok (.aaload, 1) := by decide +kernel
theorem dX6_takeFrom_16 : decode cX6_takeFrom 16 = .ok (.aload_n 1, 1) := by decide +kernel
theorem dX6_takeFrom_17 : decode cX6_takeFrom 17 = .ok (.getfield 13, 3) := by decide +kernel
theorem dX6_takeFrom_20 : decode cX6_takeFrom 20 = .ok (.iload_n 2, 1) := by decide +kernel
theorem dX6_takeFrom_21 : decode cX6_takeFrom 21 = .ok (.aaload, 1) := by decide +kernel
theorem dX6_takeFrom_22 : decode cX6_takeFrom 22 = .ok (.invokevirtual 44, 3) := by decide +kernel
theorem dX6_takeFrom_25 : decode cX6_takeFrom 25 = .ok (.iinc 2 1, 3) := by decide +kernel
theorem dX6_takeFrom_28 : decode cX6_takeFrom 28 = .ok (.goto (-26), 3) := by decide +kernel
theorem dX6_takeFrom_31 : decode cX6_takeFrom 31 = .ok (.iconst 0, 1) := by decide +kernel
theorem dX6_takeFrom_32 : decode cX6_takeFrom 32 = .ok (.istore_n 2, 1) := by decide +kernel
theorem dX6_takeFrom_33 : decode cX6_takeFrom 33 = .ok (.iload_n 2, 1) := by decide +kernel
theorem dX6_takeFrom_34 : decode cX6_takeFrom 34 = .ok (.aload_n 1, 1) := by decide +kernel
theorem dX6_takeFrom_35 : decode cX6_takeFrom 35 = .ok (.getfield 27, 3) := by decide +kernel
theorem dX6_takeFrom_38 : decode cX6_takeFrom 38 = .ok (.if_icmp .ge 24, 3) := by decide +kernel
theorem dX6_takeFrom_41 : decode cX6_takeFrom 41 = .ok (.aload_n 0, 1) := by decide +kernel
theorem dX6_takeFrom_42 : decode cX6_takeFrom 42 = .ok (.getfield 19, 3) := by decide +kernel
theorem dX6_takeFrom_45 : decode cX6_takeFrom 45 = .ok (.iload_n 2, 1) := by decide +kernel
theorem dX6_takeFrom_46 : decode cX6_takeFrom 46 = .ok (.aaload, 1) := by decide +kernel
theorem dX6_takeFrom_47 : decode cX6_takeFrom 47 = .ok (.aload_n 1, 1) := by decide +kernel
theorem dX6_takeFrom_48 : decode cX6_takeFrom 48 = .ok (.getfield 19, 3) := by decide +kernel
theorem dX6_takeFrom_51 : decode cX6_takeFrom 51 = .ok (.iload_n 2, 1) := by decide +kernel
theorem dX6_takeFrom_52 : decode cX6_takeFrom 52 = .ok (.aaload, 1) := by decide +kernel
theorem dX6_takeFrom_53 : decode cX6_takeFrom 53 = .ok (.invokevirtual 48, 3) := by decide +kernel
theorem dX6_takeFrom_56 : decode cX6_takeFrom 56 = .ok (.iinc 2 1, 3) := by decide +kernel
theorem dX6_takeFrom_59 : decode cX6_takeFrom 59 = .ok (.goto (-26), 3) := by decide +kernel
theorem dX6_takeFrom_62 : decode cX6_takeFrom 62 = .ok (.aload_n 0, 1) := by decide +kernel
theorem dX6_takeFrom_63 : decode cX6_takeFrom 63 = .ok (.aload_n 1, 1) := by decide +kernel
theorem dX6_takeFrom_64 : decode cX6_takeFrom 64 = .ok (.getfield 23, 3) := by decide +kernel
theorem dX6_takeFrom_67 : decode cX6_takeFrom 67 = .ok (.putfield 23, 3) := by decide +kernel
theorem dX6_takeFrom_70 : decode cX6_takeFrom 70 = .ok (.aload_n 0, 1) := by decide +kernel
theorem dX6_takeFrom_71 : decode cX6_takeFrom 71 = .ok (.aload_n 1, 1) := by decide +kernel
theorem dX6_takeFrom_72 : decode cX6_takeFrom 72 = .ok (.getfield 27, 3) := by decide +kernel
theorem dX6_takeFrom_75 : decode cX6_takeFrom 75 = .ok (.putfield 27, 3) := by decide +kernel
theorem dX6_takeFrom_78 : decode cX6_takeFrom 78 = .ok (.aload_n 0, 1) := by decide +kernel
theorem dX6_takeFrom_79 : decode cX6_takeFrom 79 = .ok (.aload_n 1, 1) := by decide +kernel
theorem dX6_takeFrom_80 : decode cX6_takeFrom 80 = .ok (.getfield 30, 3) := by decide +kernel
theorem dX6_takeFrom_83 : decode cX6_takeFrom 83 = .ok (.putfield 30, 3) := by decide +kernel
theorem dX6_takeFrom_86 : decode cX6_takeFrom 86 = .ok (.aload_n 0, 1) := by decide +kernel
theorem dX6_takeFrom_87 : decode cX6_takeFrom 87 = .ok (.aload_n 1, 1) := by decide +kernel
theorem dX6_takeFrom_88 : decode cX6_takeFrom 88 = .ok (.getfield 33, 3) := by decide +kernel
theorem dX6_takeFrom_91 : decode cX6_takeFrom 91 = .ok (.putfield 33, 3) := by decide +kernel
theorem dX6_takeFrom_94 : decode cX6_takeFrom 94 = .ok (.aload_n 0, 1) := by decide +kernel
theorem dX6_takeFrom_95 : decode cX6_takeFrom 95 = .ok (.aload_n 1, 1) := by decide +kernel
theorem dX6_takeFrom_96 : decode cX6_takeFrom 96 = .ok (.getfield 36, 3) := by decide +kernel
theorem dX6_takeFrom_99 : decode cX6_takeFrom 99 = .ok (.putfield 36, 3) := by decide +kernel
theorem dX6_takeFrom_102 : decode cX6_takeFrom 102 = .ok (.aload_n 0, 1) := by decide +kernel
theorem dX6_takeFrom_103 : decode cX6_takeFrom 103 = .ok (.aload_n 1, 1) := by decide +kernel
theorem dX6_takeFrom_104 : decode cX6_takeFrom 104 = .ok (.getfield 39, 3) := by decide +kernel
theorem dX6_takeFrom_107 : decode cX6_takeFrom 107 = .ok (.putfield 39, 3) := by decide +kernel
theorem dX6_takeFrom_110 : decode cX6_takeFrom 110 = .ok (.return_, 1) := by decide +kernel
theorem dX6_isArm_0 : decode cX6_isArm 0 = .ok (.iload_n 1, 1) := by decide +kernel
theorem dX6_isArm_1 : decode cX6_isArm 1 = .ok (.ifCond .lt 15, 3) := by decide +kernel
theorem dX6_isArm_4 : decode cX6_isArm 4 = .ok (.iload_n 1, 1) := by decide +kernel
theorem dX6_isArm_5 : decode cX6_isArm 5 = .ok (.aload_n 0, 1) := by decide +kernel
theorem dX6_isArm_6 : decode cX6_isArm 6 = .ok (.getfield 23, 3) := by decide +kernel
theorem dX6_isArm_9 : decode cX6_isArm 9 = .ok (.if_icmp .ge 7, 3) := by decide +kernel
theorem dX6_isArm_12 : decode cX6_isArm 12 = .ok (.iconst 1, 1) := by decide +kernel
theorem dX6_isArm_13 : decode cX6_isArm 13 = .ok (.goto 4, 3) := by decide +kernel
theorem dX6_isArm_16 : decode cX6_isArm 16 = .ok (.iconst 0, 1) := by decide +kernel
theorem dX6_isArm_17 : decode cX6_isArm 17 = .ok (.ireturn, 1) := by decide +kernel
theorem dX6_isDoll_0 : decode cX6_isDoll 0 = .ok (.iload_n 1, 1) := by decide +kernel
theorem dX6_isDoll_1 : decode cX6_isDoll 1 = .ok (.ifCond .lt 15, 3) := by decide +kernel
theorem dX6_isDoll_4 : decode cX6_isDoll 4 = .ok (.iload_n 1, 1) := by decide +kernel
theorem dX6_isDoll_5 : decode cX6_isDoll 5 = .ok (.aload_n 0, 1) := by decide +kernel
theorem dX6_isDoll_6 : decode cX6_isDoll 6 = .ok (.getfield 27, 3) := by decide +kernel
theorem dX6_isDoll_9 : decode cX6_isDoll 9 = .ok (.if_icmp .ge 7, 3) := by decide +kernel
theorem dX6_isDoll_12 : decode cX6_isDoll 12 = .ok (.iconst 1, 1) := by decide +kernel
theorem dX6_isDoll_13 : decode cX6_isDoll 13 = .ok (.goto 4, 3) := by decide +kernel
theorem dX6_isDoll_16 : decode cX6_isDoll 16 = .ok (.iconst 0, 1) := by decide +kernel
theorem dX6_isDoll_17 : decode cX6_isDoll 17 = .ok (.ireturn, 1) := by decide +kernel
theorem dX6_hasRoomForArm_0 : decode cX6_hasRoomForArm 0 = .ok (.aload_n 0, 1) := by decide +kernel
theorem dX6_hasRoomForArm_1 : decode cX6_hasRoomForArm 1 = .ok (.getfield 23, 3) := by decide +kernel
theorem dX6_hasRoomForArm_4 : decode cX6_hasRoomForArm 4 = .ok (.bipush 8, 2) := by decide +kernel
theorem dX6_hasRoomForArm_6 : decode cX6_hasRoomForArm 6 = .ok (.if_icmp .ge 7, 3) := by decide +kernel
theorem dX6_hasRoomForArm_9 : decode cX6_hasRoomForArm 9 = .ok (.iconst 1, 1) := by decide +kernel
theorem dX6_hasRoomForArm_10 : decode cX6_hasRoomForArm 10 = .ok (.goto 4, 3) := by decide +kernel
theorem dX6_hasRoomForArm_13 : decode cX6_hasRoomForArm 13 = .ok (.iconst 0, 1) := by decide +kernel
theorem dX6_hasRoomForArm_14 : decode cX6_hasRoomForArm 14 = .ok (.ireturn, 1) := by decide +kernel
theorem dX6_hasRoomForDoll_0 : decode cX6_hasRoomForDoll 0 = .ok (.aload_n 0, 1) := by decide +kernel
theorem dX6_hasRoomForDoll_1 : decode cX6_hasRoomForDoll 1 = .ok (.getfield 27, 3) := by decide +kernel
theorem dX6_hasRoomForDoll_4 : decode cX6_hasRoomForDoll 4 = .ok (.iconst 5, 1) := by decide +kernel
theorem dX6_hasRoomForDoll_5 : decode cX6_hasRoomForDoll 5 = .ok (.if_icmp .ge 7, 3) := by decide +kernel
theorem dX6_hasRoomForDoll_8 : decode cX6_hasRoomForDoll 8 = .ok (.iconst 1, 1) := by decide +kernel
theorem dX6_hasRoomForDoll_9 : decode cX6_hasRoomForDoll 9 = .ok (.goto 4, 3) := by decide +kernel
theorem dX6_hasRoomForDoll_12 : decode cX6_hasRoomForDoll 12 = .ok (.iconst 0, 1) := by decide +kernel
theorem dX6_hasRoomForDoll_13 : decode cX6_hasRoomForDoll 13 = .ok (.ireturn, 1) := by decide +kernel
theorem dX6_addArm_0 : decode cX6_addArm 0 = .ok (.aload_n 0, 1) := by decide +kernel
theorem dX6_addArm_1 : decode cX6_addArm 1 = .ok (.invokevirtual 51, 3) := by decide +kernel
theorem dX6_addArm_4 : decode cX6_addArm 4 = .ok (.ifCond .ne 5, 3) := by decide +kernel
theorem dX6_addArm_7 : decode cX6_addArm 7 = .ok (.iconst (-1), 1) := by decide +kernel
theorem dX6_addArm_8 : decode cX6_addArm 8 = .ok (.ireturn, 1) := by decide +kernel
theorem dX6_addArm_9 : decode cX6_addArm 9 = .ok (.aload_n 0, 1) := by decide +kernel
theorem dX6_addArm_10 : decode cX6_addArm 10 = .ok (.getfield 13, 3) := by decide +kernel
theorem dX6_addArm_13 : decode cX6_addArm 13 = .ok (.aload_n 0, 1) := by decide +kernel
theorem dX6_addArm_14 : decode cX6_addArm 14 = .ok (.getfield 23, 3) := by decide +kernel
theorem dX6_addArm_17 : decode cX6_addArm 17 = .ok (.aaload, 1) := by decide +kernel
theorem dX6_addArm_18 : decode cX6_addArm 18 = .ok (.iload_n 1, 1) := by decide +kernel
theorem dX6_addArm_19 : decode cX6_addArm 19 = .ok (.iload_n 2, 1) := by decide +kernel
theorem dX6_addArm_20 : decode cX6_addArm 20 = .ok (.iload_n 3, 1) := by decide +kernel
theorem dX6_addArm_21 : decode cX6_addArm 21 = .ok (.iload 4, 2) := by decide +kernel
theorem dX6_addArm_23 : decode cX6_addArm 23 = .ok (.iload 5, 2) := by decide +kernel
theorem dX6_addArm_25 : decode cX6_addArm 25 = .ok (.iload 6, 2) := by decide +kernel
theorem dX6_addArm_27 : decode cX6_addArm 27 = .ok (.invokevirtual 55, 3) := by decide +kernel
theorem dX6_addArm_30 : decode cX6_addArm 30 = .ok (.aload_n 0, 1) := by decide +kernel
theorem dX6_addArm_31 : decode cX6_addArm 31 = .ok (.dup, 1) := by decide +kernel
theorem dX6_addArm_32 : decode cX6_addArm 32 = .ok (.getfield 23, 3) := by decide +kernel
theorem dX6_addArm_35 : decode cX6_addArm 35 = .ok (.iconst 1, 1) := by decide +kernel
theorem dX6_addArm_36 : decode cX6_addArm 36 = .ok (.iadd, 1) := by decide +kernel
theorem dX6_addArm_37 : decode cX6_addArm 37 = .ok (.putfield 23, 3) := by decide +kernel
theorem dX6_addArm_40 : decode cX6_addArm 40 = .ok (.aload_n 0, 1) := by decide +kernel
theorem dX6_addArm_41 : decode cX6_addArm 41 = .ok (.getfield 23, 3) := by decide +kernel
theorem dX6_addArm_44 : decode cX6_addArm 44 = .ok (.iconst 1, 1) := by decide +kernel
theorem dX6_addArm_45 : decode cX6_addArm 45 = .ok (.isub, 1) := by decide +kernel
theorem dX6_addArm_46 : decode cX6_addArm 46 = .ok (.ireturn, 1) := by decide +kernel
theorem dX6_addDoll_0 : decode cX6_addDoll 0 = .ok (.aload_n 0, 1) := by decide +kernel
theorem dX6_addDoll_1 : decode cX6_addDoll 1 = .ok (.invokevirtual 59, 3) := by decide +kernel
theorem dX6_addDoll_4 : decode cX6_addDoll 4 = .ok (.ifCond .ne 5, 3) := by decide +kernel
theorem dX6_addDoll_7 : decode cX6_addDoll 7 = .ok (.iconst (-1), 1) := by decide +kernel
theorem dX6_addDoll_8 : decode cX6_addDoll 8 = .ok (.ireturn, 1) := by decide +kernel
theorem dX6_addDoll_9 : decode cX6_addDoll 9 = .ok (.aload_n 0, 1) := by decide +kernel
theorem dX6_addDoll_10 : decode cX6_addDoll 10 = .ok (.getfield 19, 3) := by decide +kernel
theorem dX6_addDoll_13 : decode cX6_addDoll 13 = .ok (.aload_n 0, 1) := by decide +kernel
theorem dX6_addDoll_14 : decode cX6_addDoll 14 = .ok (.getfield 27, 3) := by decide +kernel
theorem dX6_addDoll_17 : decode cX6_addDoll 17 = .ok (.aaload, 1) := by decide +kernel
theorem dX6_addDoll_18 : decode cX6_addDoll 18 = .ok (.iload_n 1, 1) := by decide +kernel
theorem dX6_addDoll_19 : decode cX6_addDoll 19 = .ok (.iload_n 2, 1) := by decide +kernel
theorem dX6_addDoll_20 : decode cX6_addDoll 20 = .ok (.iload_n 3, 1) := by decide +kernel
theorem dX6_addDoll_21 : decode cX6_addDoll 21 = .ok (.iload 4, 2) := by decide +kernel
theorem dX6_addDoll_23 : decode cX6_addDoll 23 = .ok (.iload 5, 2) := by decide +kernel
theorem dX6_addDoll_25 : decode cX6_addDoll 25 = .ok (.iload 6, 2) := by decide +kernel
theorem dX6_addDoll_27 : decode cX6_addDoll 27 = .ok (.iload 7, 2) := by decide +kernel
theorem dX6_addDoll_29 : decode cX6_addDoll 29 = .ok (.invokevirtual 62, 3) := by decide +kernel
theorem dX6_addDoll_32 : decode cX6_addDoll 32 = .ok (.aload_n 0, 1) := by decide +kernel
theorem dX6_addDoll_33 : decode cX6_addDoll 33 = .ok (.dup, 1) := by decide +kernel
theorem dX6_addDoll_34 : decode cX6_addDoll 34 = .ok (.getfield 27, 3) := by decide +kernel
theorem dX6_addDoll_37 : decode cX6_addDoll 37 = .ok (.iconst 1, 1) := by decide +kernel
theorem dX6_addDoll_38 : decode cX6_addDoll 38 = .ok (.iadd, 1) := by decide +kernel
theorem dX6_addDoll_39 : decode cX6_addDoll 39 = .ok (.putfield 27, 3) := by decide +kernel
theorem dX6_addDoll_42 : decode cX6_addDoll 42 = .ok (.aload_n 0, 1) := by decide +kernel
theorem dX6_addDoll_43 : decode cX6_addDoll 43 = .ok (.getfield 27, 3) := by decide +kernel
theorem dX6_addDoll_46 : decode cX6_addDoll 46 = .ok (.iconst 1, 1) := by decide +kernel
theorem dX6_addDoll_47 : decode cX6_addDoll 47 = .ok (.isub, 1) := by decide +kernel
theorem dX6_addDoll_48 : decode cX6_addDoll 48 = .ok (.ireturn, 1) := by decide +kernel
theorem dX6_armAt_0 : decode cX6_armAt 0 = .ok (.iconst 0, 1) := by decide +kernel
theorem dX6_armAt_1 : decode cX6_armAt 1 = .ok (.istore_n 3, 1) := by decide +kernel
theorem dX6_armAt_2 : decode cX6_armAt 2 = .ok (.iload_n 3, 1) := by decide +kernel
theorem dX6_armAt_3 : decode cX6_armAt 3 = .ok (.aload_n 0, 1) := by decide +kernel
theorem dX6_armAt_4 : decode cX6_armAt 4 = .ok (.getfield 23, 3) := by decide +kernel
theorem dX6_armAt_7 : decode cX6_armAt 7 = .ok (.if_icmp .ge 25, 3) := by decide +kernel
theorem dX6_armAt_10 : decode cX6_armAt 10 = .ok (.aload_n 0, 1) := by decide +kernel
theorem dX6_armAt_11 : decode cX6_armAt 11 = .ok (.getfield 13, 3) := by decide +kernel
theorem dX6_armAt_14 : decode cX6_armAt 14 = .ok (.iload_n 3, 1) := by decide +kernel
theorem dX6_armAt_15 : decode cX6_armAt 15 = .ok (.aaload, 1) := by decide +kernel
theorem dX6_armAt_16 : decode cX6_armAt 16 = .ok (.iload_n 1, 1) := by decide +kernel
theorem dX6_armAt_17 : decode cX6_armAt 17 = .ok (.iload_n 2, 1) := by decide +kernel
theorem dX6_armAt_18 : decode cX6_armAt 18 = .ok (.invokevirtual 65, 3) := by decide +kernel
theorem dX6_armAt_21 : decode cX6_armAt 21 = .ok (.ifCond .eq 5, 3) := by decide +kernel
theorem dX6_armAt_24 : decode cX6_armAt 24 = .ok (.iload_n 3, 1) := by decide +kernel
theorem dX6_armAt_25 : decode cX6_armAt 25 = .ok (.ireturn, 1) := by decide +kernel
theorem dX6_armAt_26 : decode cX6_armAt 26 = .ok (.iinc 3 1, 3) := by decide +kernel
theorem dX6_armAt_29 : decode cX6_armAt 29 = .ok (.goto (-27), 3) := by decide +kernel
theorem dX6_armAt_32 : decode cX6_armAt 32 = .ok (.iconst (-1), 1) := by decide +kernel
theorem dX6_armAt_33 : decode cX6_armAt 33 = .ok (.ireturn, 1) := by decide +kernel
theorem dX6_canCome_0 : decode cX6_canCome 0 = .ok (.aload_n 0, 1) := by decide +kernel
theorem dX6_canCome_1 : decode cX6_canCome 1 = .ok (.getfield 13, 3) := by decide +kernel
theorem dX6_canCome_4 : decode cX6_canCome 4 = .ok (.iload_n 1, 1) := by decide +kernel
theorem dX6_canCome_5 : decode cX6_canCome 5 = .ok (.aaload, 1) := by decide +kernel
theorem dX6_canCome_6 : decode cX6_canCome 6 = .ok (.invokevirtual 69, 3) := by decide +kernel
theorem dX6_canCome_9 : decode cX6_canCome 9 = .ok (.ifCond .eq 36, 3) := by decide +kernel
theorem dX6_canCome_12 : decode cX6_canCome 12 = .ok (.aload_n 0, 1) := by decide +kernel
theorem dX6_canCome_13 : decode cX6_canCome 13 = .ok (.getfield 13, 3) := by decide +kernel
theorem dX6_canCome_16 : decode cX6_canCome 16 = .ok (.iload_n 1, 1) := by decide +kernel
theorem dX6_canCome_17 : decode cX6_canCome 17 = .ok (.aaload, 1) := by decide +kernel
theorem dX6_canCome_18 : decode cX6_canCome 18 = .ok (.aload_n 0, 1) := by decide +kernel
theorem dX6_canCome_19 : decode cX6_canCome 19 = .ok (.getfield 19, 3) := by decide +kernel
theorem dX6_canCome_22 : decode cX6_canCome 22 = .ok (.iload_n 2, 1) := by decide +kernel
theorem dX6_canCome_23 : decode cX6_canCome 23 = .ok (.aaload, 1) := by decide +kernel
theorem dX6_canCome_24 : decode cX6_canCome 24 = .ok (.iload_n 3, 1) := by decide +kernel
theorem dX6_canCome_25 : decode cX6_canCome 25 = .ok (.invokevirtual 72, 3) := by decide +kernel
theorem dX6_canCome_28 : decode cX6_canCome 28 = .ok (.ifCond .eq 17, 3) := by decide +kernel
theorem dX6_canCome_31 : decode cX6_canCome 31 = .ok (.aload_n 0, 1) := by decide +kernel
theorem dX6_canCome_32 : decode cX6_canCome 32 = .ok (.iload_n 2, 1) := by decide +kernel
theorem dX6_canCome_33 : decode cX6_canCome 33 = .ok (.iload_n 3, 1) := by decide +kernel
theorem dX6_canCome_34 : decode cX6_canCome 34 = .ok (.invokevirtual 76, 3) := by decide +kernel
theorem dX6_canCome_37 : decode cX6_canCome 37 = .ok (.iconst (-1), 1) := by decide +kernel
theorem dX6_canCome_38 : decode cX6_canCome 38 = .ok (.if_icmp .ne 7, 3) := by decide +kernel
theorem dX6_canCome_41 : decode cX6_canCome 41 = .ok (.iconst 1, 1) := by decide +kernel
theorem dX6_canCome_42 : decode cX6_canCome 42 = .ok (.goto 4, 3) := by decide +kernel
theorem dX6_canCome_45 : decode cX6_canCome 45 = .ok (.iconst 0, 1) := by decide +kernel
theorem dX6_canCome_46 : decode cX6_canCome 46 = .ok (.ireturn, 1) := by decide +kernel
theorem dX6_mendWith_0 : decode cX6_mendWith 0 = .ok (.aload_n 0, 1) := by decide +kernel
theorem dX6_mendWith_1 : decode cX6_mendWith 1 = .ok (.getfield 13, 3) := by decide +kernel
theorem dX6_mendWith_4 : decode cX6_mendWith 4 = .ok (.iload_n 1, 1) := by decide +kernel
theorem dX6_mendWith_5 : decode cX6_mendWith 5 = .ok (.aaload, 1) := by decide +kernel
theorem dX6_mendWith_6 : decode cX6_mendWith 6 = .ok (.iload_n 2, 1) := by decide +kernel
theorem dX6_mendWith_7 : decode cX6_mendWith 7 = .ok (.iload_n 3, 1) := by decide +kernel
theorem dX6_mendWith_8 : decode cX6_mendWith 8 = .ok (.invokevirtual 80, 3) := by decide +kernel
theorem dX6_mendWith_11 : decode cX6_mendWith 11 = .ok (.aload_n 0, 1) := by decide +kernel
theorem dX6_mendWith_12 : decode cX6_mendWith 12 = .ok (.dup, 1) := by decide +kernel
theorem dX6_mendWith_13 : decode cX6_mendWith 13 = .ok (.getfield 33, 3) := by decide +kernel
theorem dX6_mendWith_16 : decode cX6_mendWith 16 = .ok (.aload_n 0, 1) := by decide +kernel
theorem dX6_mendWith_17 : decode cX6_mendWith 17 = .ok (.getfield 19, 3) := by decide +kernel
theorem dX6_mendWith_20 : decode cX6_mendWith 20 = .ok (.iload_n 2, 1) := by decide +kernel
theorem dX6_mendWith_21 : decode cX6_mendWith 21 = .ok (.aaload, 1) := by decide +kernel
theorem dX6_mendWith_22 : decode cX6_mendWith 22 = .ok (.getfield 84, 3) := by decide +kernel
theorem dX6_mendWith_25 : decode cX6_mendWith 25 = .ok (.iadd, 1) := by decide +kernel
theorem dX6_mendWith_26 : decode cX6_mendWith 26 = .ok (.putfield 33, 3) := by decide +kernel
theorem dX6_mendWith_29 : decode cX6_mendWith 29 = .ok (.aload_n 0, 1) := by decide +kernel
theorem dX6_mendWith_30 : decode cX6_mendWith 30 = .ok (.dup, 1) := by decide +kernel
theorem dX6_mendWith_31 : decode cX6_mendWith 31 = .ok (.getfield 30, 3) := by decide +kernel
theorem dX6_mendWith_34 : decode cX6_mendWith 34 = .ok (.iconst 1, 1) := by decide +kernel
theorem dX6_mendWith_35 : decode cX6_mendWith 35 = .ok (.iadd, 1) := by decide +kernel
theorem dX6_mendWith_36 : decode cX6_mendWith 36 = .ok (.putfield 30, 3) := by decide +kernel
theorem dX6_mendWith_39 : decode cX6_mendWith 39 = .ok (.return_, 1) := by decide +kernel
theorem dX6_armsFor_0 : decode cX6_armsFor 0 = .ok (.iconst 0, 1) := by decide +kernel
theorem dX6_armsFor_1 : decode cX6_armsFor 1 = .ok (.istore_n 3, 1) := by decide +kernel
theorem dX6_armsFor_2 : decode cX6_armsFor 2 = .ok (.iconst 0, 1) := by decide +kernel
theorem dX6_armsFor_3 : decode cX6_armsFor 3 = .ok (.istore 4, 2) := by decide +kernel
theorem dX6_armsFor_5 : decode cX6_armsFor 5 = .ok (.iload 4, 2) := by decide +kernel
theorem dX6_armsFor_7 : decode cX6_armsFor 7 = .ok (.aload_n 0, 1) := by decide +kernel
theorem dX6_armsFor_8 : decode cX6_armsFor 8 = .ok (.getfield 23, 3) := by decide +kernel
theorem dX6_armsFor_11 : decode cX6_armsFor 11 = .ok (.if_icmp .ge 27, 3) := by decide +kernel
theorem dX6_armsFor_14 : decode cX6_armsFor 14 = .ok (.aload_n 0, 1) := by decide +kernel
theorem dX6_armsFor_15 : decode cX6_armsFor 15 = .ok (.iload 4, 2) := by decide +kernel
theorem dX6_armsFor_17 : decode cX6_armsFor 17 = .ok (.iload_n 1, 1) := by decide +kernel
theorem dX6_armsFor_18 : decode cX6_armsFor 18 = .ok (.iload_n 2, 1) := by decide +kernel
theorem dX6_armsFor_19 : decode cX6_armsFor 19 = .ok (.invokevirtual 87, 3) := by decide +kernel
theorem dX6_armsFor_22 : decode cX6_armsFor 22 = .ok (.ifCond .eq 10, 3) := by decide +kernel
theorem dX6_armsFor_25 : decode cX6_armsFor 25 = .ok (.iload_n 3, 1) := by decide +kernel
theorem dX6_armsFor_26 : decode cX6_armsFor 26 = .ok (.iconst 1, 1) := by decide +kernel
theorem dX6_armsFor_27 : decode cX6_armsFor 27 = .ok (.iload 4, 2) := by decide +kernel
theorem dX6_armsFor_29 : decode cX6_armsFor 29 = .ok (.ishl, 1) := by decide +kernel
theorem dX6_armsFor_30 : decode cX6_armsFor 30 = .ok (.ior, 1) := by decide +kernel
theorem dX6_armsFor_31 : decode cX6_armsFor 31 = .ok (.istore_n 3, 1) := by decide +kernel
theorem dX6_armsFor_32 : decode cX6_armsFor 32 = .ok (.iinc 4 1, 3) := by decide +kernel
theorem dX6_armsFor_35 : decode cX6_armsFor 35 = .ok (.goto (-30), 3) := by decide +kernel
theorem dX6_armsFor_38 : decode cX6_armsFor 38 = .ok (.iload_n 3, 1) := by decide +kernel
theorem dX6_armsFor_39 : decode cX6_armsFor 39 = .ok (.ireturn, 1) := by decide +kernel
theorem dX6_leastUnlike_0 : decode cX6_leastUnlike 0 = .ok (.iconst (-1), 1) := by decide +kernel
theorem dX6_leastUnlike_1 : decode cX6_leastUnlike 1 = .ok (.istore_n 3, 1) := by decide +kernel
theorem dX6_leastUnlike_2 : decode cX6_leastUnlike 2 = .ok (.iconst 0, 1) := by decide +kernel
theorem dX6_leastUnlike_3 : decode cX6_leastUnlike 3 = .ok (.istore 4, 2) := by decide +kernel
theorem dX6_leastUnlike_5 : decode cX6_leastUnlike 5 = .ok (.iconst 0, 1) := by decide +kernel
theorem dX6_leastUnlike_6 : decode cX6_leastUnlike 6 = .ok (.istore 5, 2) := by decide +kernel
theorem dX6_leastUnlike_8 : decode cX6_leastUnlike 8 = .ok (.iload 5, 2) := by decide +kernel
theorem dX6_leastUnlike_10 : decode cX6_leastUnlike 10 = .ok (.aload_n 0, 1) := by decide +kernel
theorem dX6_leastUnlike_11 : decode cX6_leastUnlike 11 = .ok (.getfield 23, 3) := by decide +kernel
theorem dX6_leastUnlike_14 : decode cX6_leastUnlike 14 = .ok (.if_icmp .ge 55, 3) := by decide +kernel
theorem dX6_leastUnlike_17 : decode cX6_leastUnlike 17 = .ok (.iload_n 1, 1) := by decide +kernel
theorem dX6_leastUnlike_18 : decode cX6_leastUnlike 18 = .ok (.iload 5, 2) := by decide +kernel
theorem dX6_leastUnlike_20 : decode cX6_leastUnlike 20 = .ok (.ishr, 1) := by decide +kernel
theorem dX6_leastUnlike_21 : decode cX6_leastUnlike 21 = .ok (.iconst 1, 1) := by decide +kernel
theorem dX6_leastUnlike_22 : decode cX6_leastUnlike 22 = .ok (.iand, 1) := by decide +kernel
theorem dX6_leastUnlike_23 : decode cX6_leastUnlike 23 = .ok (.ifCond .eq 40, 3) := by decide +kernel
theorem dX6_leastUnlike_26 : decode cX6_leastUnlike 26 = .ok (.aload_n 0, 1) := by decide +kernel
theorem dX6_leastUnlike_27 : decode cX6_leastUnlike 27 = .ok (.getfield 13, 3) := by decide +kernel
theorem dX6_leastUnlike_30 : decode cX6_leastUnlike 30 = .ok (.iload 5, 2) := by decide +kernel
theorem dX6_leastUnlike_32 : decode cX6_leastUnlike 32 = .ok (.aaload, 1) := by decide +kernel
theorem dX6_leastUnlike_33 : decode cX6_leastUnlike 33 = .ok (.aload_n 0, 1) := by decide +kernel
theorem dX6_leastUnlike_34 : decode cX6_leastUnlike 34 = .ok (.getfield 19, 3) := by decide +kernel
theorem dX6_leastUnlike_37 : decode cX6_leastUnlike 37 = .ok (.iload_n 2, 1) := by decide +kernel
theorem dX6_leastUnlike_38 : decode cX6_leastUnlike 38 = .ok (.aaload, 1) := by decide +kernel
theorem dX6_leastUnlike_39 : decode cX6_leastUnlike 39 = .ok (.invokevirtual 91, 3) := by decide +kernel
theorem dX6_leastUnlike_42 : decode cX6_leastUnlike 42 = .ok (.istore 6, 2) := by decide +kernel
theorem dX6_leastUnlike_44 : decode cX6_leastUnlike 44 = .ok (.iload_n 3, 1) := by decide +kernel
theorem dX6_leastUnlike_45 : decode cX6_leastUnlike 45 = .ok (.iconst (-1), 1) := by decide +kernel
theorem dX6_leastUnlike_46 : decode cX6_leastUnlike 46 = .ok (.if_icmp .eq 10, 3) := by decide +kernel
theorem dX6_leastUnlike_49 : decode cX6_leastUnlike 49 = .ok (.iload 6, 2) := by decide +kernel
theorem dX6_leastUnlike_51 : decode cX6_leastUnlike 51 = .ok (.iload 4, 2) := by decide +kernel
theorem dX6_leastUnlike_53 : decode cX6_leastUnlike 53 = .ok (.if_icmp .ge 10, 3) := by decide +kernel
theorem dX6_leastUnlike_56 : decode cX6_leastUnlike 56 = .ok (.iload 5, 2) := by decide +kernel
theorem dX6_leastUnlike_58 : decode cX6_leastUnlike 58 = .ok (.istore_n 3, 1) := by decide +kernel
theorem dX6_leastUnlike_59 : decode cX6_leastUnlike 59 = .ok (.iload 6, 2) := by decide +kernel
theorem dX6_leastUnlike_61 : decode cX6_leastUnlike 61 = .ok (.istore 4, 2) := by decide +kernel
theorem dX6_leastUnlike_63 : decode cX6_leastUnlike 63 = .ok (.iinc 5 1, 3) := by decide +kernel
theorem dX6_leastUnlike_66 : decode cX6_leastUnlike 66 = .ok (.goto (-58), 3) := by decide +kernel
theorem dX6_leastUnlike_69 : decode cX6_leastUnlike 69 = .ok (.iload_n 3, 1) := by decide +kernel
theorem dX6_leastUnlike_70 : decode cX6_leastUnlike 70 = .ok (.ireturn, 1) := by decide +kernel
theorem dX6_armsInDrawer_0 : decode cX6_armsInDrawer 0 = .ok (.iconst 0, 1) := by decide +kernel
theorem dX6_armsInDrawer_1 : decode cX6_armsInDrawer 1 = .ok (.istore_n 1, 1) := by decide +kernel
theorem dX6_armsInDrawer_2 : decode cX6_armsInDrawer 2 = .ok (.iconst 0, 1) := by decide +kernel
theorem dX6_armsInDrawer_3 : decode cX6_armsInDrawer 3 = .ok (.istore_n 2, 1) := by decide +kernel
theorem dX6_armsInDrawer_4 : decode cX6_armsInDrawer 4 = .ok (.iload_n 2, 1) := by decide +kernel
theorem dX6_armsInDrawer_5 : decode cX6_armsInDrawer 5 = .ok (.aload_n 0, 1) := by decide +kernel
theorem dX6_armsInDrawer_6 : decode cX6_armsInDrawer 6 = .ok (.getfield 23, 3) := by decide +kernel
theorem dX6_armsInDrawer_9 : decode cX6_armsInDrawer 9 = .ok (.if_icmp .ge 24, 3) := by decide +kernel
theorem dX6_armsInDrawer_12 : decode cX6_armsInDrawer 12 = .ok (.aload_n 0, 1) := by decide +kernel
theorem dX6_armsInDrawer_13 : decode cX6_armsInDrawer 13 = .ok (.getfield 13, 3) := by decide +kernel
theorem dX6_armsInDrawer_16 : decode cX6_armsInDrawer 16 = .ok (.iload_n 2, 1) := by decide +kernel
theorem dX6_armsInDrawer_17 : decode cX6_armsInDrawer 17 = .ok (.aaload, 1) := by decide +kernel
theorem dX6_armsInDrawer_18 : decode cX6_armsInDrawer 18 = .ok (.invokevirtual 69, 3) := by decide +kernel
theorem dX6_armsInDrawer_21 : decode cX6_armsInDrawer 21 = .ok (.ifCond .eq 6, 3) := by decide +kernel
theorem dX6_armsInDrawer_24 : decode cX6_armsInDrawer 24 = .ok (.iinc 1 1, 3) := by decide +kernel
theorem dX6_armsInDrawer_27 : decode cX6_armsInDrawer 27 = .ok (.iinc 2 1, 3) := by decide +kernel
theorem dX6_armsInDrawer_30 : decode cX6_armsInDrawer 30 = .ok (.goto (-26), 3) := by decide +kernel
theorem dX6_armsInDrawer_33 : decode cX6_armsInDrawer 33 = .ok (.iload_n 1, 1) := by decide +kernel
theorem dX6_armsInDrawer_34 : decode cX6_armsInDrawer 34 = .ok (.ireturn, 1) := by decide +kernel
theorem dX6_dollsWithBoth_0 : decode cX6_dollsWithBoth 0 = .ok (.iconst 0, 1) := by decide +kernel
theorem dX6_dollsWithBoth_1 : decode cX6_dollsWithBoth 1 = .ok (.istore_n 1, 1) := by decide +kernel
theorem dX6_dollsWithBoth_2 : decode cX6_dollsWithBoth 2 = .ok (.iconst 0, 1) := by decide +kernel
theorem dX6_dollsWithBoth_3 : decode cX6_dollsWithBoth 3 = .ok (.istore_n 2, 1) := by decide +kernel
theorem dX6_dollsWithBoth_4 : decode cX6_dollsWithBoth 4 = .ok (.iload_n 2, 1) := by decide +kernel
theorem dX6_dollsWithBoth_5 : decode cX6_dollsWithBoth 5 = .ok (.aload_n 0, 1) := by decide +kernel
theorem dX6_dollsWithBoth_6 : decode cX6_dollsWithBoth 6 = .ok (.getfield 27, 3) := by decide +kernel
theorem dX6_dollsWithBoth_9 : decode cX6_dollsWithBoth 9 = .ok (.if_icmp .ge 32, 3) := by decide +kernel
theorem dX6_dollsWithBoth_12 : decode cX6_dollsWithBoth 12 = .ok (.aload_n 0, 1) := by decide +kernel
theorem dX6_dollsWithBoth_13 : decode cX6_dollsWithBoth 13 = .ok (.iload_n 2, 1) := by decide +kernel
theorem dX6_dollsWithBoth_14 : decode cX6_dollsWithBoth 14 = .ok (.iconst 0, 1) := by decide +kernel
theorem dX6_dollsWithBoth_15 : decode cX6_dollsWithBoth 15 = .ok (.invokevirtual 76, 3) := by decide +kernel
theorem dX6_dollsWithBoth_18 : decode cX6_dollsWithBoth 18 = .ok (.iconst (-1), 1) := by decide +kernel
theorem dX6_dollsWithBoth_19 : decode cX6_dollsWithBoth 19 = .ok (.if_icmp .eq 16, 3) := by decide +kernel
theorem dX6_dollsWithBoth_22 : decode cX6_dollsWithBoth 22 = .ok (.aload_n 0, 1) := by decide +kernel
theorem dX6_dollsWithBoth_23 : decode cX6_dollsWithBoth 23 = .ok (.iload_n 2, 1) := by decide +kernel
theorem dX6_dollsWithBoth_24 : decode cX6_dollsWithBoth 24 = .ok (.iconst 1, 1) := by decide +kernel
theorem dX6_dollsWithBoth_25 : decode cX6_dollsWithBoth 25 = .ok (.invokevirtual 76, 3) := by decide +kernel
theorem dX6_dollsWithBoth_28 : decode cX6_dollsWithBoth 28 = .ok (.iconst (-1), 1) := by decide +kernel
theorem dX6_dollsWithBoth_29 : decode cX6_dollsWithBoth 29 = .ok (.if_icmp .eq 6, 3) := by decide +kernel
theorem dX6_dollsWithBoth_32 : decode cX6_dollsWithBoth 32 = .ok (.iinc 1 1, 3) := by decide +kernel
theorem dX6_dollsWithBoth_35 : decode cX6_dollsWithBoth 35 = .ok (.iinc 2 1, 3) := by decide +kernel
theorem dX6_dollsWithBoth_38 : decode cX6_dollsWithBoth 38 = .ok (.goto (-34), 3) := by decide +kernel
theorem dX6_dollsWithBoth_41 : decode cX6_dollsWithBoth 41 = .ok (.iload_n 1, 1) := by decide +kernel
theorem dX6_dollsWithBoth_42 : decode cX6_dollsWithBoth 42 = .ok (.ireturn, 1) := by decide +kernel
theorem dX6_unlikeOn_0 : decode cX6_unlikeOn 0 = .ok (.iconst 0, 1) := by decide +kernel
theorem dX6_unlikeOn_1 : decode cX6_unlikeOn 1 = .ok (.istore_n 2, 1) := by decide +kernel
theorem dX6_unlikeOn_2 : decode cX6_unlikeOn 2 = .ok (.iconst 0, 1) := by decide +kernel
theorem dX6_unlikeOn_3 : decode cX6_unlikeOn 3 = .ok (.istore_n 3, 1) := by decide +kernel
theorem dX6_unlikeOn_4 : decode cX6_unlikeOn 4 = .ok (.iload_n 3, 1) := by decide +kernel
theorem dX6_unlikeOn_5 : decode cX6_unlikeOn 5 = .ok (.iconst 1, 1) := by decide +kernel
theorem dX6_unlikeOn_6 : decode cX6_unlikeOn 6 = .ok (.if_icmp .gt 42, 3) := by decide +kernel
theorem dX6_unlikeOn_9 : decode cX6_unlikeOn 9 = .ok (.aload_n 0, 1) := by decide +kernel
theorem dX6_unlikeOn_10 : decode cX6_unlikeOn 10 = .ok (.iload_n 1, 1) := by decide +kernel
theorem dX6_unlikeOn_11 : decode cX6_unlikeOn 11 = .ok (.iload_n 3, 1) := by decide +kernel
theorem dX6_unlikeOn_12 : decode cX6_unlikeOn 12 = .ok (.invokevirtual 76, 3) := by decide +kernel
theorem dX6_unlikeOn_15 : decode cX6_unlikeOn 15 = .ok (.istore 4, 2) := by decide +kernel
theorem dX6_unlikeOn_17 : decode cX6_unlikeOn 17 = .ok (.iload 4, 2) := by decide +kernel
theorem dX6_unlikeOn_19 : decode cX6_unlikeOn 19 = .ok (.iconst (-1), 1) := by decide +kernel
theorem dX6_unlikeOn_20 : decode cX6_unlikeOn 20 = .ok (.if_icmp .eq 22, 3) := by decide +kernel
theorem dX6_unlikeOn_23 : decode cX6_unlikeOn 23 = .ok (.iload_n 2, 1) := by decide +kernel
theorem dX6_unlikeOn_24 : decode cX6_unlikeOn 24 = .ok (.aload_n 0, 1) := by decide +kernel
theorem dX6_unlikeOn_25 : decode cX6_unlikeOn 25 = .ok (.getfield 13, 3) := by decide +kernel
theorem dX6_unlikeOn_28 : decode cX6_unlikeOn 28 = .ok (.iload 4, 2) := by decide +kernel
theorem dX6_unlikeOn_30 : decode cX6_unlikeOn 30 = .ok (.aaload, 1) := by decide +kernel
theorem dX6_unlikeOn_31 : decode cX6_unlikeOn 31 = .ok (.aload_n 0, 1) := by decide +kernel
theorem dX6_unlikeOn_32 : decode cX6_unlikeOn 32 = .ok (.getfield 19, 3) := by decide +kernel
theorem dX6_unlikeOn_35 : decode cX6_unlikeOn 35 = .ok (.iload_n 1, 1) := by decide +kernel
theorem dX6_unlikeOn_36 : decode cX6_unlikeOn 36 = .ok (.aaload, 1) := by decide +kernel
theorem dX6_unlikeOn_37 : decode cX6_unlikeOn 37 = .ok (.invokevirtual 91, 3) := by decide +kernel
theorem dX6_unlikeOn_40 : decode cX6_unlikeOn 40 = .ok (.iadd, 1) := by decide +kernel
theorem dX6_unlikeOn_41 : decode cX6_unlikeOn 41 = .ok (.istore_n 2, 1) := by decide +kernel
theorem dX6_unlikeOn_42 : decode cX6_unlikeOn 42 = .ok (.iinc 3 1, 3) := by decide +kernel
theorem dX6_unlikeOn_45 : decode cX6_unlikeOn 45 = .ok (.goto (-41), 3) := by decide +kernel
theorem dX6_unlikeOn_48 : decode cX6_unlikeOn 48 = .ok (.iload_n 2, 1) := by decide +kernel
theorem dX6_unlikeOn_49 : decode cX6_unlikeOn 49 = .ok (.ireturn, 1) := by decide +kernel
theorem dX6_unlikeOfAllOn_0 : decode cX6_unlikeOfAllOn 0 = .ok (.iconst 0, 1) := by decide +kernel
theorem dX6_unlikeOfAllOn_1 : decode cX6_unlikeOfAllOn 1 = .ok (.istore_n 1, 1) := by decide +kernel
theorem dX6_unlikeOfAllOn_2 : decode cX6_unlikeOfAllOn 2 = .ok (.iconst 0, 1) := by decide +kernel
theorem dX6_unlikeOfAllOn_3 : decode cX6_unlikeOfAllOn 3 = .ok (.istore_n 2, 1) := by decide +kernel
theorem dX6_unlikeOfAllOn_4 : decode cX6_unlikeOfAllOn 4 = .ok (.iload_n 2, 1) := by decide +kernel
theorem dX6_unlikeOfAllOn_5 : decode cX6_unlikeOfAllOn 5 = .ok (.aload_n 0, 1) := by decide +kernel
theorem dX6_unlikeOfAllOn_6 : decode cX6_unlikeOfAllOn 6 = .ok (.getfield 27, 3) := by decide +kernel
theorem dX6_unlikeOfAllOn_9 : decode cX6_unlikeOfAllOn 9 = .ok (.if_icmp .ge 17, 3) := by decide +kernel
theorem dX6_unlikeOfAllOn_12 : decode cX6_unlikeOfAllOn 12 = .ok (.iload_n 1, 1) := by decide +kernel
theorem dX6_unlikeOfAllOn_13 : decode cX6_unlikeOfAllOn 13 = .ok (.aload_n 0, 1) := by decide +kernel
theorem dX6_unlikeOfAllOn_14 : decode cX6_unlikeOfAllOn 14 = .ok (.iload_n 2, 1) := by decide +kernel
theorem dX6_unlikeOfAllOn_15 : decode cX6_unlikeOfAllOn 15 = .ok (.invokevirtual 95, 3) := by decide +kernel
theorem dX6_unlikeOfAllOn_18 : decode cX6_unlikeOfAllOn 18 = .ok (.iadd, 1) := by decide +kernel
theorem dX6_unlikeOfAllOn_19 : decode cX6_unlikeOfAllOn 19 = .ok (.istore_n 1, 1) := by decide +kernel
theorem dX6_unlikeOfAllOn_20 : decode cX6_unlikeOfAllOn 20 = .ok (.iinc 2 1, 3) := by decide +kernel
theorem dX6_unlikeOfAllOn_23 : decode cX6_unlikeOfAllOn 23 = .ok (.goto (-19), 3) := by decide +kernel
theorem dX6_unlikeOfAllOn_26 : decode cX6_unlikeOfAllOn 26 = .ok (.iload_n 1, 1) := by decide +kernel
theorem dX6_unlikeOfAllOn_27 : decode cX6_unlikeOfAllOn 27 = .ok (.ireturn, 1) := by decide +kernel
theorem dX6_isHer_0 : decode cX6_isHer 0 = .ok (.aload_n 0, 1) := by decide +kernel
theorem dX6_isHer_1 : decode cX6_isHer 1 = .ok (.iload_n 1, 1) := by decide +kernel
theorem dX6_isHer_2 : decode cX6_isHer 2 = .ok (.invokevirtual 95, 3) := by decide +kernel
theorem dX6_isHer_5 : decode cX6_isHer 5 = .ok (.aload_n 0, 1) := by decide +kernel
theorem dX6_isHer_6 : decode cX6_isHer 6 = .ok (.getfield 19, 3) := by decide +kernel
theorem dX6_isHer_9 : decode cX6_isHer 9 = .ok (.iload_n 1, 1) := by decide +kernel
theorem dX6_isHer_10 : decode cX6_isHer 10 = .ok (.aaload, 1) := by decide +kernel
theorem dX6_isHer_11 : decode cX6_isHer 11 = .ok (.getfield 99, 3) := by decide +kernel
theorem dX6_isHer_14 : decode cX6_isHer 14 = .ok (.if_icmp .gt 7, 3) := by decide +kernel
theorem dX6_isHer_17 : decode cX6_isHer 17 = .ok (.iconst 1, 1) := by decide +kernel
theorem dX6_isHer_18 : decode cX6_isHer 18 = .ok (.goto 4, 3) := by decide +kernel
theorem dX6_isHer_21 : decode cX6_isHer 21 = .ok (.iconst 0, 1) := by decide +kernel
theorem dX6_isHer_22 : decode cX6_isHer 22 = .ok (.ireturn, 1) := by decide +kernel
theorem dX6_dollsHerself_0 : decode cX6_dollsHerself 0 = .ok (.iconst 0, 1) := by decide +kernel
theorem dX6_dollsHerself_1 : decode cX6_dollsHerself 1 = .ok (.istore_n 1, 1) := by decide +kernel
theorem dX6_dollsHerself_2 : decode cX6_dollsHerself 2 = .ok (.iconst 0, 1) := by decide +kernel
theorem dX6_dollsHerself_3 : decode cX6_dollsHerself 3 = .ok (.istore_n 2, 1) := by decide +kernel
theorem dX6_dollsHerself_4 : decode cX6_dollsHerself 4 = .ok (.iload_n 2, 1) := by decide +kernel
theorem dX6_dollsHerself_5 : decode cX6_dollsHerself 5 = .ok (.aload_n 0, 1) := by decide +kernel
theorem dX6_dollsHerself_6 : decode cX6_dollsHerself 6 = .ok (.getfield 27, 3) := by decide +kernel
theorem dX6_dollsHerself_9 : decode cX6_dollsHerself 9 = .ok (.if_icmp .ge 20, 3) := by decide +kernel
theorem dX6_dollsHerself_12 : decode cX6_dollsHerself 12 = .ok (.aload_n 0, 1) := by decide +kernel
theorem dX6_dollsHerself_13 : decode cX6_dollsHerself 13 = .ok (.iload_n 2, 1) := by decide +kernel
theorem dX6_dollsHerself_14 : decode cX6_dollsHerself 14 = .ok (.invokevirtual 102, 3) := by decide +kernel
theorem dX6_dollsHerself_17 : decode cX6_dollsHerself 17 = .ok (.ifCond .eq 6, 3) := by decide +kernel
theorem dX6_dollsHerself_20 : decode cX6_dollsHerself 20 = .ok (.iinc 1 1, 3) := by decide +kernel
theorem dX6_dollsHerself_23 : decode cX6_dollsHerself 23 = .ok (.iinc 2 1, 3) := by decide +kernel
theorem dX6_dollsHerself_26 : decode cX6_dollsHerself 26 = .ok (.goto (-22), 3) := by decide +kernel
theorem dX6_dollsHerself_29 : decode cX6_dollsHerself 29 = .ok (.iload_n 1, 1) := by decide +kernel
theorem dX6_dollsHerself_30 : decode cX6_dollsHerself 30 = .ok (.ireturn, 1) := by decide +kernel
theorem dX6_bestSwap_0 : decode cX6_bestSwap 0 = .ok (.iconst (-1), 1) := by decide +kernel
theorem dX6_bestSwap_1 : decode cX6_bestSwap 1 = .ok (.istore_n 1, 1) := by decide +kernel
theorem dX6_bestSwap_2 : decode cX6_bestSwap 2 = .ok (.iconst 0, 1) := by decide +kernel
theorem dX6_bestSwap_3 : decode cX6_bestSwap 3 = .ok (.istore_n 2, 1) := by decide +kernel
theorem dX6_bestSwap_4 : decode cX6_bestSwap 4 = .ok (.iconst 0, 1) := by decide +kernel
theorem dX6_bestSwap_5 : decode cX6_bestSwap 5 = .ok (.istore_n 3, 1) := by decide +kernel
theorem dX6_bestSwap_6 : decode cX6_bestSwap 6 = .ok (.iload_n 3, 1) := by decide +kernel
theorem dX6_bestSwap_7 : decode cX6_bestSwap 7 = .ok (.aload_n 0, 1) := by decide +kernel
theorem dX6_bestSwap_8 : decode cX6_bestSwap 8 = .ok (.getfield 23, 3) := by decide +kernel
theorem dX6_bestSwap_11 : decode cX6_bestSwap 11 = .ok (.if_icmp .ge 65, 3) := by decide +kernel
theorem dX6_bestSwap_14 : decode cX6_bestSwap 14 = .ok (.iload_n 3, 1) := by decide +kernel
theorem dX6_bestSwap_15 : decode cX6_bestSwap 15 = .ok (.iconst 1, 1) := by decide +kernel
theorem dX6_bestSwap_16 : decode cX6_bestSwap 16 = .ok (.iadd, 1) := by decide +kernel
theorem dX6_bestSwap_17 : decode cX6_bestSwap 17 = .ok (.istore 4, 2) := by decide +kernel
theorem dX6_bestSwap_19 : decode cX6_bestSwap 19 = .ok (.iload 4, 2) := by decide +kernel
theorem dX6_bestSwap_21 : decode cX6_bestSwap 21 = .ok (.aload_n 0, 1) := by decide +kernel
theorem dX6_bestSwap_22 : decode cX6_bestSwap 22 = .ok (.getfield 23, 3) := by decide +kernel
theorem dX6_bestSwap_25 : decode cX6_bestSwap 25 = .ok (.if_icmp .ge 45, 3) := by decide +kernel
theorem dX6_bestSwap_28 : decode cX6_bestSwap 28 = .ok (.aload_n 0, 1) := by decide +kernel
theorem dX6_bestSwap_29 : decode cX6_bestSwap 29 = .ok (.aload_n 0, 1) := by decide +kernel
theorem dX6_bestSwap_30 : decode cX6_bestSwap 30 = .ok (.getfield 13, 3) := by decide +kernel
theorem dX6_bestSwap_33 : decode cX6_bestSwap 33 = .ok (.iload_n 3, 1) := by decide +kernel
theorem dX6_bestSwap_34 : decode cX6_bestSwap 34 = .ok (.aaload, 1) := by decide +kernel
theorem dX6_bestSwap_35 : decode cX6_bestSwap 35 = .ok (.aload_n 0, 1) := by decide +kernel
theorem dX6_bestSwap_36 : decode cX6_bestSwap 36 = .ok (.getfield 13, 3) := by decide +kernel
theorem dX6_bestSwap_39 : decode cX6_bestSwap 39 = .ok (.iload 4, 2) := by decide +kernel
theorem dX6_bestSwap_41 : decode cX6_bestSwap 41 = .ok (.aaload, 1) := by decide +kernel
theorem dX6_bestSwap_42 : decode cX6_bestSwap 42 = .ok (.invokevirtual 106, 3) := by decide +kernel
theorem dX6_bestSwap_45 : decode cX6_bestSwap 45 = .ok (.istore 5, 2) := by decide +kernel
theorem dX6_bestSwap_47 : decode cX6_bestSwap 47 = .ok (.iload 5, 2) := by decide +kernel
theorem dX6_bestSwap_49 : decode cX6_bestSwap 49 = .ok (.iload_n 2, 1) := by decide +kernel
theorem dX6_bestSwap_50 : decode cX6_bestSwap 50 = .ok (.if_icmp .le 14, 3) := by decide +kernel
theorem dX6_bestSwap_53 : decode cX6_bestSwap 53 = .ok (.iload 5, 2) := by decide +kernel
theorem dX6_bestSwap_55 : decode cX6_bestSwap 55 = .ok (.istore_n 2, 1) := by decide +kernel
theorem dX6_bestSwap_56 : decode cX6_bestSwap 56 = .ok (.bipush 10, 2) := by decide +kernel
theorem dX6_bestSwap_58 : decode cX6_bestSwap 58 = .ok (.iload_n 3, 1) := by decide +kernel
theorem dX6_bestSwap_59 : decode cX6_bestSwap 59 = .ok (.imul, 1) := by decide +kernel
theorem dX6_bestSwap_60 : decode cX6_bestSwap 60 = .ok (.iload 4, 2) := by decide +kernel
theorem dX6_bestSwap_62 : decode cX6_bestSwap 62 = .ok (.iadd, 1) := by decide +kernel
theorem dX6_bestSwap_63 : decode cX6_bestSwap 63 = .ok (.istore_n 1, 1) := by decide +kernel
theorem dX6_bestSwap_64 : decode cX6_bestSwap 64 = .ok (.iinc 4 1, 3) := by decide +kernel
theorem dX6_bestSwap_67 : decode cX6_bestSwap 67 = .ok (.goto (-48), 3) := by decide +kernel
theorem dX6_bestSwap_70 : decode cX6_bestSwap 70 = .ok (.iinc 3 1, 3) := by decide +kernel
theorem dX6_bestSwap_73 : decode cX6_bestSwap 73 = .ok (.goto (-67), 3) := by decide +kernel
theorem dX6_bestSwap_76 : decode cX6_bestSwap 76 = .ok (.iload_n 1, 1) := by decide +kernel
theorem dX6_bestSwap_77 : decode cX6_bestSwap 77 = .ok (.ireturn, 1) := by decide +kernel
theorem dX6_gainOfSwap_0 : decode cX6_gainOfSwap 0 = .ok (.aload_n 1, 1) := by decide +kernel
theorem dX6_gainOfSwap_1 : decode cX6_gainOfSwap 1 = .ok (.getfield 110, 3) := by decide +kernel
theorem dX6_gainOfSwap_4 : decode cX6_gainOfSwap 4 = .ok (.bipush 10, 2) := by decide +kernel
theorem dX6_gainOfSwap_6 : decode cX6_gainOfSwap 6 = .ok (.irem, 1) := by decide +kernel
theorem dX6_gainOfSwap_7 : decode cX6_gainOfSwap 7 = .ok (.istore_n 3, 1) := by decide +kernel
theorem dX6_gainOfSwap_8 : decode cX6_gainOfSwap 8 = .ok (.aload_n 1, 1) := by decide +kernel
theorem dX6_gainOfSwap_9 : decode cX6_gainOfSwap 9 = .ok (.invokevirtual 69, 3) := by decide +kernel
theorem dX6_gainOfSwap_12 : decode cX6_gainOfSwap 12 = .ok (.ifCond .ne 21, 3) := by decide +kernel
theorem dX6_gainOfSwap_15 : decode cX6_gainOfSwap 15 = .ok (.aload_n 2, 1) := by decide +kernel
theorem dX6_gainOfSwap_16 : decode cX6_gainOfSwap 16 = .ok (.invokevirtual 69, 3) := by decide +kernel
theorem dX6_gainOfSwap_19 : decode cX6_gainOfSwap 19 = .ok (.ifCond .ne 14, 3) := by decide +kernel
theorem dX6_gainOfSwap_22 : decode cX6_gainOfSwap 22 = .ok (.iload_n 3, 1) := by decide +kernel
theorem dX6_gainOfSwap_23 : decode cX6_gainOfSwap 23 = .ok (.aload_n 2, 1) := by decide +kernel
theorem dX6_gainOfSwap_24 : decode cX6_gainOfSwap 24 = .ok (.getfield 110, 3) := by decide +kernel
theorem dX6_gainOfSwap_27 : decode cX6_gainOfSwap 27 = .ok (.bipush 10, 2) := by decide +kernel
