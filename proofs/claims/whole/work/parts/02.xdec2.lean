theorem dX6_gainOfSwap_29 : decode cX6_gainOfSwap 29 = .ok (.irem, 1) := by decide +kernel
theorem dX6_gainOfSwap_30 : decode cX6_gainOfSwap 30 = .ok (.if_icmp .eq 5, 3) := by decide +kernel
theorem dX6_gainOfSwap_33 : decode cX6_gainOfSwap 33 = .ok (.iconst 0, 1) := by decide +kernel
theorem dX6_gainOfSwap_34 : decode cX6_gainOfSwap 34 = .ok (.ireturn, 1) := by decide +kernel
theorem dX6_gainOfSwap_35 : decode cX6_gainOfSwap 35 = .ok (.aload_n 1, 1) := by decide +kernel
theorem dX6_gainOfSwap_36 : decode cX6_gainOfSwap 36 = .ok (.getfield 110, 3) := by decide +kernel
theorem dX6_gainOfSwap_39 : decode cX6_gainOfSwap 39 = .ok (.bipush 10, 2) := by decide +kernel
theorem dX6_gainOfSwap_41 : decode cX6_gainOfSwap 41 = .ok (.idiv, 1) := by decide +kernel
theorem dX6_gainOfSwap_42 : decode cX6_gainOfSwap 42 = .ok (.istore 4, 2) := by decide +kernel
theorem dX6_gainOfSwap_44 : decode cX6_gainOfSwap 44 = .ok (.aload_n 2, 1) := by decide +kernel
theorem dX6_gainOfSwap_45 : decode cX6_gainOfSwap 45 = .ok (.getfield 110, 3) := by decide +kernel
theorem dX6_gainOfSwap_48 : decode cX6_gainOfSwap 48 = .ok (.bipush 10, 2) := by decide +kernel
theorem dX6_gainOfSwap_50 : decode cX6_gainOfSwap 50 = .ok (.idiv, 1) := by decide +kernel
theorem dX6_gainOfSwap_51 : decode cX6_gainOfSwap 51 = .ok (.istore 5, 2) := by decide +kernel
theorem dX6_gainOfSwap_53 : decode cX6_gainOfSwap 53 = .ok (.aload_n 0, 1) := by decide +kernel
theorem dX6_gainOfSwap_54 : decode cX6_gainOfSwap 54 = .ok (.iload 4, 2) := by decide +kernel
theorem dX6_gainOfSwap_56 : decode cX6_gainOfSwap 56 = .ok (.invokevirtual 113, 3) := by decide +kernel
theorem dX6_gainOfSwap_59 : decode cX6_gainOfSwap 59 = .ok (.ifCond .eq 42, 3) := by decide +kernel
theorem dX6_gainOfSwap_62 : decode cX6_gainOfSwap 62 = .ok (.aload_n 0, 1) := by decide +kernel
theorem dX6_gainOfSwap_63 : decode cX6_gainOfSwap 63 = .ok (.iload 5, 2) := by decide +kernel
theorem dX6_gainOfSwap_65 : decode cX6_gainOfSwap 65 = .ok (.invokevirtual 113, 3) := by decide +kernel
theorem dX6_gainOfSwap_68 : decode cX6_gainOfSwap 68 = .ok (.ifCond .eq 33, 3) := by decide +kernel
theorem dX6_gainOfSwap_71 : decode cX6_gainOfSwap 71 = .ok (.aload_n 1, 1) := by decide +kernel
theorem dX6_gainOfSwap_72 : decode cX6_gainOfSwap 72 = .ok (.aload_n 0, 1) := by decide +kernel
theorem dX6_gainOfSwap_73 : decode cX6_gainOfSwap 73 = .ok (.getfield 19, 3) := by decide +kernel
theorem dX6_gainOfSwap_76 : decode cX6_gainOfSwap 76 = .ok (.iload 5, 2) := by decide +kernel
theorem dX6_gainOfSwap_78 : decode cX6_gainOfSwap 78 = .ok (.aaload, 1) := by decide +kernel
theorem dX6_gainOfSwap_79 : decode cX6_gainOfSwap 79 = .ok (.iload_n 3, 1) := by decide +kernel
theorem dX6_gainOfSwap_80 : decode cX6_gainOfSwap 80 = .ok (.invokevirtual 72, 3) := by decide +kernel
theorem dX6_gainOfSwap_83 : decode cX6_gainOfSwap 83 = .ok (.ifCond .eq 18, 3) := by decide +kernel
theorem dX6_gainOfSwap_86 : decode cX6_gainOfSwap 86 = .ok (.aload_n 2, 1) := by decide +kernel
theorem dX6_gainOfSwap_87 : decode cX6_gainOfSwap 87 = .ok (.aload_n 0, 1) := by decide +kernel
theorem dX6_gainOfSwap_88 : decode cX6_gainOfSwap 88 = .ok (.getfield 19, 3) := by decide +kernel
theorem dX6_gainOfSwap_91 : decode cX6_gainOfSwap 91 = .ok (.iload 4, 2) := by decide +kernel
theorem dX6_gainOfSwap_93 : decode cX6_gainOfSwap 93 = .ok (.aaload, 1) := by decide +kernel
theorem dX6_gainOfSwap_94 : decode cX6_gainOfSwap 94 = .ok (.iload_n 3, 1) := by decide +kernel
theorem dX6_gainOfSwap_95 : decode cX6_gainOfSwap 95 = .ok (.invokevirtual 72, 3) := by decide +kernel
theorem dX6_gainOfSwap_98 : decode cX6_gainOfSwap 98 = .ok (.ifCond .ne 5, 3) := by decide +kernel
theorem dX6_gainOfSwap_101 : decode cX6_gainOfSwap 101 = .ok (.iconst 0, 1) := by decide +kernel
theorem dX6_gainOfSwap_102 : decode cX6_gainOfSwap 102 = .ok (.ireturn, 1) := by decide +kernel
theorem dX6_gainOfSwap_103 : decode cX6_gainOfSwap 103 = .ok (.aload_n 1, 1) := by decide +kernel
theorem dX6_gainOfSwap_104 : decode cX6_gainOfSwap 104 = .ok (.aload_n 0, 1) := by decide +kernel
theorem dX6_gainOfSwap_105 : decode cX6_gainOfSwap 105 = .ok (.getfield 19, 3) := by decide +kernel
theorem dX6_gainOfSwap_108 : decode cX6_gainOfSwap 108 = .ok (.iload 4, 2) := by decide +kernel
theorem dX6_gainOfSwap_110 : decode cX6_gainOfSwap 110 = .ok (.aaload, 1) := by decide +kernel
theorem dX6_gainOfSwap_111 : decode cX6_gainOfSwap 111 = .ok (.invokevirtual 91, 3) := by decide +kernel
theorem dX6_gainOfSwap_114 : decode cX6_gainOfSwap 114 = .ok (.aload_n 2, 1) := by decide +kernel
theorem dX6_gainOfSwap_115 : decode cX6_gainOfSwap 115 = .ok (.aload_n 0, 1) := by decide +kernel
theorem dX6_gainOfSwap_116 : decode cX6_gainOfSwap 116 = .ok (.getfield 19, 3) := by decide +kernel
theorem dX6_gainOfSwap_119 : decode cX6_gainOfSwap 119 = .ok (.iload 5, 2) := by decide +kernel
theorem dX6_gainOfSwap_121 : decode cX6_gainOfSwap 121 = .ok (.aaload, 1) := by decide +kernel
theorem dX6_gainOfSwap_122 : decode cX6_gainOfSwap 122 = .ok (.invokevirtual 91, 3) := by decide +kernel
theorem dX6_gainOfSwap_125 : decode cX6_gainOfSwap 125 = .ok (.iadd, 1) := by decide +kernel
theorem dX6_gainOfSwap_126 : decode cX6_gainOfSwap 126 = .ok (.aload_n 1, 1) := by decide +kernel
theorem dX6_gainOfSwap_127 : decode cX6_gainOfSwap 127 = .ok (.aload_n 0, 1) := by decide +kernel
theorem dX6_gainOfSwap_128 : decode cX6_gainOfSwap 128 = .ok (.getfield 19, 3) := by decide +kernel
theorem dX6_gainOfSwap_131 : decode cX6_gainOfSwap 131 = .ok (.iload 5, 2) := by decide +kernel
theorem dX6_gainOfSwap_133 : decode cX6_gainOfSwap 133 = .ok (.aaload, 1) := by decide +kernel
theorem dX6_gainOfSwap_134 : decode cX6_gainOfSwap 134 = .ok (.invokevirtual 91, 3) := by decide +kernel
theorem dX6_gainOfSwap_137 : decode cX6_gainOfSwap 137 = .ok (.isub, 1) := by decide +kernel
theorem dX6_gainOfSwap_138 : decode cX6_gainOfSwap 138 = .ok (.aload_n 2, 1) := by decide +kernel
theorem dX6_gainOfSwap_139 : decode cX6_gainOfSwap 139 = .ok (.aload_n 0, 1) := by decide +kernel
theorem dX6_gainOfSwap_140 : decode cX6_gainOfSwap 140 = .ok (.getfield 19, 3) := by decide +kernel
theorem dX6_gainOfSwap_143 : decode cX6_gainOfSwap 143 = .ok (.iload 4, 2) := by decide +kernel
theorem dX6_gainOfSwap_145 : decode cX6_gainOfSwap 145 = .ok (.aaload, 1) := by decide +kernel
theorem dX6_gainOfSwap_146 : decode cX6_gainOfSwap 146 = .ok (.invokevirtual 91, 3) := by decide +kernel
theorem dX6_gainOfSwap_149 : decode cX6_gainOfSwap 149 = .ok (.isub, 1) := by decide +kernel
theorem dX6_gainOfSwap_150 : decode cX6_gainOfSwap 150 = .ok (.ireturn, 1) := by decide +kernel
theorem dX6_drawBelow_0 : decode cX6_drawBelow 0 = .ok (.aload_n 0, 1) := by decide +kernel
theorem dX6_drawBelow_1 : decode cX6_drawBelow 1 = .ok (.aload_n 0, 1) := by decide +kernel
theorem dX6_drawBelow_2 : decode cX6_drawBelow 2 = .ok (.getfield 39, 3) := by decide +kernel
theorem dX6_drawBelow_5 : decode cX6_drawBelow 5 = .ok (.ldc 116, 2) := by decide +kernel
theorem dX6_drawBelow_7 : decode cX6_drawBelow 7 = .ok (.imul, 1) := by decide +kernel
theorem dX6_drawBelow_8 : decode cX6_drawBelow 8 = .ok (.sipush 12345, 3) := by decide +kernel
theorem dX6_drawBelow_11 : decode cX6_drawBelow 11 = .ok (.iadd, 1) := by decide +kernel
theorem dX6_drawBelow_12 : decode cX6_drawBelow 12 = .ok (.putfield 39, 3) := by decide +kernel
theorem dX6_drawBelow_15 : decode cX6_drawBelow 15 = .ok (.iload_n 1, 1) := by decide +kernel
theorem dX6_drawBelow_16 : decode cX6_drawBelow 16 = .ok (.ifCond .le 15, 3) := by decide +kernel
theorem dX6_drawBelow_19 : decode cX6_drawBelow 19 = .ok (.aload_n 0, 1) := by decide +kernel
theorem dX6_drawBelow_20 : decode cX6_drawBelow 20 = .ok (.getfield 39, 3) := by decide +kernel
theorem dX6_drawBelow_23 : decode cX6_drawBelow 23 = .ok (.bipush 16, 2) := by decide +kernel
theorem dX6_drawBelow_25 : decode cX6_drawBelow 25 = .ok (.iushr, 1) := by decide +kernel
theorem dX6_drawBelow_26 : decode cX6_drawBelow 26 = .ok (.iload_n 1, 1) := by decide +kernel
theorem dX6_drawBelow_27 : decode cX6_drawBelow 27 = .ok (.irem, 1) := by decide +kernel
theorem dX6_drawBelow_28 : decode cX6_drawBelow 28 = .ok (.goto 4, 3) := by decide +kernel
theorem dX6_drawBelow_31 : decode cX6_drawBelow 31 = .ok (.iconst 0, 1) := by decide +kernel
theorem dX6_drawBelow_32 : decode cX6_drawBelow 32 = .ok (.ireturn, 1) := by decide +kernel
theorem dX6_passDay_0 : decode cX6_passDay 0 = .ok (.iconst 0, 1) := by decide +kernel
theorem dX6_passDay_1 : decode cX6_passDay 1 = .ok (.istore_n 1, 1) := by decide +kernel
theorem dX6_passDay_2 : decode cX6_passDay 2 = .ok (.iload_n 1, 1) := by decide +kernel
theorem dX6_passDay_3 : decode cX6_passDay 3 = .ok (.aload_n 0, 1) := by decide +kernel
theorem dX6_passDay_4 : decode cX6_passDay 4 = .ok (.getfield 27, 3) := by decide +kernel
theorem dX6_passDay_7 : decode cX6_passDay 7 = .ok (.if_icmp .ge 34, 3) := by decide +kernel
theorem dX6_passDay_10 : decode cX6_passDay 10 = .ok (.aload_n 0, 1) := by decide +kernel
theorem dX6_passDay_11 : decode cX6_passDay 11 = .ok (.getfield 19, 3) := by decide +kernel
theorem dX6_passDay_14 : decode cX6_passDay 14 = .ok (.iload_n 1, 1) := by decide +kernel
theorem dX6_passDay_15 : decode cX6_passDay 15 = .ok (.aaload, 1) := by decide +kernel
theorem dX6_passDay_16 : decode cX6_passDay 16 = .ok (.bipush 99, 2) := by decide +kernel
theorem dX6_passDay_18 : decode cX6_passDay 18 = .ok (.aload_n 0, 1) := by decide +kernel
theorem dX6_passDay_19 : decode cX6_passDay 19 = .ok (.getfield 19, 3) := by decide +kernel
theorem dX6_passDay_22 : decode cX6_passDay 22 = .ok (.iload_n 1, 1) := by decide +kernel
theorem dX6_passDay_23 : decode cX6_passDay 23 = .ok (.aaload, 1) := by decide +kernel
theorem dX6_passDay_24 : decode cX6_passDay 24 = .ok (.getfield 117, 3) := by decide +kernel
theorem dX6_passDay_27 : decode cX6_passDay 27 = .ok (.iconst 1, 1) := by decide +kernel
theorem dX6_passDay_28 : decode cX6_passDay 28 = .ok (.iadd, 1) := by decide +kernel
theorem dX6_passDay_29 : decode cX6_passDay 29 = .ok (.invokestatic 120, 3) := by decide +kernel
theorem dX6_passDay_32 : decode cX6_passDay 32 = .ok (.putfield 117, 3) := by decide +kernel
theorem dX6_passDay_35 : decode cX6_passDay 35 = .ok (.iinc 1 1, 3) := by decide +kernel
theorem dX6_passDay_38 : decode cX6_passDay 38 = .ok (.goto (-36), 3) := by decide +kernel
theorem dX6_passDay_41 : decode cX6_passDay 41 = .ok (.aload_n 0, 1) := by decide +kernel
theorem dX6_passDay_42 : decode cX6_passDay 42 = .ok (.dup, 1) := by decide +kernel
theorem dX6_passDay_43 : decode cX6_passDay 43 = .ok (.getfield 36, 3) := by decide +kernel
theorem dX6_passDay_46 : decode cX6_passDay 46 = .ok (.iconst 1, 1) := by decide +kernel
theorem dX6_passDay_47 : decode cX6_passDay 47 = .ok (.iadd, 1) := by decide +kernel
theorem dX6_passDay_48 : decode cX6_passDay 48 = .ok (.putfield 36, 3) := by decide +kernel
theorem dX6_passDay_51 : decode cX6_passDay 51 = .ok (.aload_n 0, 1) := by decide +kernel
theorem dX6_passDay_52 : decode cX6_passDay 52 = .ok (.aload_n 0, 1) := by decide +kernel
theorem dX6_passDay_53 : decode cX6_passDay 53 = .ok (.getfield 23, 3) := by decide +kernel
theorem dX6_passDay_56 : decode cX6_passDay 56 = .ok (.invokevirtual 125, 3) := by decide +kernel
theorem dX6_passDay_59 : decode cX6_passDay 59 = .ok (.istore_n 1, 1) := by decide +kernel
theorem dX6_passDay_60 : decode cX6_passDay 60 = .ok (.aload_n 0, 1) := by decide +kernel
theorem dX6_passDay_61 : decode cX6_passDay 61 = .ok (.aload_n 0, 1) := by decide +kernel
theorem dX6_passDay_62 : decode cX6_passDay 62 = .ok (.getfield 27, 3) := by decide +kernel
theorem dX6_passDay_65 : decode cX6_passDay 65 = .ok (.invokevirtual 125, 3) := by decide +kernel
theorem dX6_passDay_68 : decode cX6_passDay 68 = .ok (.istore_n 2, 1) := by decide +kernel
theorem dX6_passDay_69 : decode cX6_passDay 69 = .ok (.aload_n 0, 1) := by decide +kernel
theorem dX6_passDay_70 : decode cX6_passDay 70 = .ok (.iconst 2, 1) := by decide +kernel
theorem dX6_passDay_71 : decode cX6_passDay 71 = .ok (.invokevirtual 125, 3) := by decide +kernel
theorem dX6_passDay_74 : decode cX6_passDay 74 = .ok (.istore_n 3, 1) := by decide +kernel
theorem dX6_passDay_75 : decode cX6_passDay 75 = .ok (.aload_n 0, 1) := by decide +kernel
theorem dX6_passDay_76 : decode cX6_passDay 76 = .ok (.iload_n 1, 1) := by decide +kernel
theorem dX6_passDay_77 : decode cX6_passDay 77 = .ok (.iload_n 2, 1) := by decide +kernel
theorem dX6_passDay_78 : decode cX6_passDay 78 = .ok (.iload_n 3, 1) := by decide +kernel
theorem dX6_passDay_79 : decode cX6_passDay 79 = .ok (.invokevirtual 87, 3) := by decide +kernel
theorem dX6_passDay_82 : decode cX6_passDay 82 = .ok (.ifCond .eq 13, 3) := by decide +kernel
theorem dX6_passDay_85 : decode cX6_passDay 85 = .ok (.aload_n 0, 1) := by decide +kernel
theorem dX6_passDay_86 : decode cX6_passDay 86 = .ok (.iload_n 1, 1) := by decide +kernel
theorem dX6_passDay_87 : decode cX6_passDay 87 = .ok (.iload_n 2, 1) := by decide +kernel
theorem dX6_passDay_88 : decode cX6_passDay 88 = .ok (.iload_n 3, 1) := by decide +kernel
theorem dX6_passDay_89 : decode cX6_passDay 89 = .ok (.invokevirtual 128, 3) := by decide +kernel
theorem dX6_passDay_92 : decode cX6_passDay 92 = .ok (.goto 26, 3) := by decide +kernel
theorem dX6_passDay_95 : decode cX6_passDay 95 = .ok (.aload_n 0, 1) := by decide +kernel
theorem dX6_passDay_96 : decode cX6_passDay 96 = .ok (.getfield 13, 3) := by decide +kernel
theorem dX6_passDay_99 : decode cX6_passDay 99 = .ok (.iload_n 1, 1) := by decide +kernel
theorem dX6_passDay_100 : decode cX6_passDay 100 = .ok (.aaload, 1) := by decide +kernel
theorem dX6_passDay_101 : decode cX6_passDay 101 = .ok (.iload_n 2, 1) := by decide +kernel
theorem dX6_passDay_102 : decode cX6_passDay 102 = .ok (.iload_n 3, 1) := by decide +kernel
theorem dX6_passDay_103 : decode cX6_passDay 103 = .ok (.invokevirtual 65, 3) := by decide +kernel
theorem dX6_passDay_106 : decode cX6_passDay 106 = .ok (.ifCond .eq 12, 3) := by decide +kernel
theorem dX6_passDay_109 : decode cX6_passDay 109 = .ok (.aload_n 0, 1) := by decide +kernel
theorem dX6_passDay_110 : decode cX6_passDay 110 = .ok (.getfield 13, 3) := by decide +kernel
theorem dX6_passDay_113 : decode cX6_passDay 113 = .ok (.iload_n 1, 1) := by decide +kernel
theorem dX6_passDay_114 : decode cX6_passDay 114 = .ok (.aaload, 1) := by decide +kernel
theorem dX6_passDay_115 : decode cX6_passDay 115 = .ok (.invokevirtual 132, 3) := by decide +kernel
theorem dX6_passDay_118 : decode cX6_passDay 118 = .ok (.return_, 1) := by decide +kernel
theorem dX7_init_0 : decode cX7_init 0 = .ok (.aload_n 0, 1) := by decide +kernel
theorem dX7_init_1 : decode cX7_init 1 = .ok (.invokespecial 5, 3) := by decide +kernel
theorem dX7_init_4 : decode cX7_init 4 = .ok (.aload_n 0, 1) := by decide +kernel
theorem dX7_init_5 : decode cX7_init 5 = .ok (.bipush 32, 2) := by decide +kernel
theorem dX7_init_7 : decode cX7_init 7 = .ok (.newarray .int, 2) := by decide +kernel
theorem dX7_init_9 : decode cX7_init 9 = .ok (.putfield 13, 3) := by decide +kernel
theorem dX7_init_12 : decode cX7_init 12 = .ok (.return_, 1) := by decide +kernel
theorem dX7_weigh_0 : decode cX7_weigh 0 = .ok (.iconst 1, 1) := by decide +kernel
theorem dX7_weigh_1 : decode cX7_weigh 1 = .ok (.aload_n 1, 1) := by decide +kernel
theorem dX7_weigh_2 : decode cX7_weigh 2 = .ok (.getfield 17, 3) := by decide +kernel
theorem dX7_weigh_5 : decode cX7_weigh 5 = .ok (.ishl, 1) := by decide +kernel
theorem dX7_weigh_6 : decode cX7_weigh 6 = .ok (.iconst 1, 1) := by decide +kernel
theorem dX7_weigh_7 : decode cX7_weigh 7 = .ok (.isub, 1) := by decide +kernel
theorem dX7_weigh_8 : decode cX7_weigh 8 = .ok (.istore_n 2, 1) := by decide +kernel
theorem dX7_weigh_9 : decode cX7_weigh 9 = .ok (.aload_n 0, 1) := by decide +kernel
theorem dX7_weigh_10 : decode cX7_weigh 10 = .ok (.getfield 13, 3) := by decide +kernel
theorem dX7_weigh_13 : decode cX7_weigh 13 = .ok (.iload_n 2, 1) := by decide +kernel
theorem dX7_weigh_14 : decode cX7_weigh 14 = .ok (.iconst 0, 1) := by decide +kernel
theorem dX7_weigh_15 : decode cX7_weigh 15 = .ok (.iastore, 1) := by decide +kernel
theorem dX7_weigh_16 : decode cX7_weigh 16 = .ok (.iload_n 2, 1) := by decide +kernel
theorem dX7_weigh_17 : decode cX7_weigh 17 = .ok (.iconst 1, 1) := by decide +kernel
theorem dX7_weigh_18 : decode cX7_weigh 18 = .ok (.isub, 1) := by decide +kernel
theorem dX7_weigh_19 : decode cX7_weigh 19 = .ok (.istore_n 3, 1) := by decide +kernel
theorem dX7_weigh_20 : decode cX7_weigh 20 = .ok (.iload_n 3, 1) := by decide +kernel
theorem dX7_weigh_21 : decode cX7_weigh 21 = .ok (.ifCond .lt 41, 3) := by decide +kernel
theorem dX7_weigh_24 : decode cX7_weigh 24 = .ok (.aload_n 0, 1) := by decide +kernel
theorem dX7_weigh_25 : decode cX7_weigh 25 = .ok (.aload_n 1, 1) := by decide +kernel
theorem dX7_weigh_26 : decode cX7_weigh 26 = .ok (.iload_n 3, 1) := by decide +kernel
theorem dX7_weigh_27 : decode cX7_weigh 27 = .ok (.invokevirtual 21, 3) := by decide +kernel
theorem dX7_weigh_30 : decode cX7_weigh 30 = .ok (.istore 4, 2) := by decide +kernel
theorem dX7_weigh_32 : decode cX7_weigh 32 = .ok (.aload_n 0, 1) := by decide +kernel
theorem dX7_weigh_33 : decode cX7_weigh 33 = .ok (.getfield 13, 3) := by decide +kernel
theorem dX7_weigh_36 : decode cX7_weigh 36 = .ok (.iload_n 3, 1) := by decide +kernel
theorem dX7_weigh_37 : decode cX7_weigh 37 = .ok (.iload 4, 2) := by decide +kernel
theorem dX7_weigh_39 : decode cX7_weigh 39 = .ok (.iconst (-1), 1) := by decide +kernel
theorem dX7_weigh_40 : decode cX7_weigh 40 = .ok (.if_icmp .ne 7, 3) := by decide +kernel
theorem dX7_weigh_43 : decode cX7_weigh 43 = .ok (.iconst 0, 1) := by decide +kernel
theorem dX7_weigh_44 : decode cX7_weigh 44 = .ok (.goto 11, 3) := by decide +kernel
theorem dX7_weigh_47 : decode cX7_weigh 47 = .ok (.aload_n 0, 1) := by decide +kernel
theorem dX7_weigh_48 : decode cX7_weigh 48 = .ok (.aload_n 1, 1) := by decide +kernel
theorem dX7_weigh_49 : decode cX7_weigh 49 = .ok (.iload_n 3, 1) := by decide +kernel
theorem dX7_weigh_50 : decode cX7_weigh 50 = .ok (.iload 4, 2) := by decide +kernel
theorem dX7_weigh_52 : decode cX7_weigh 52 = .ok (.invokevirtual 25, 3) := by decide +kernel
theorem dX7_weigh_55 : decode cX7_weigh 55 = .ok (.iastore, 1) := by decide +kernel
theorem dX7_weigh_56 : decode cX7_weigh 56 = .ok (.iinc 3 (-1), 3) := by decide +kernel
theorem dX7_weigh_59 : decode cX7_weigh 59 = .ok (.goto (-39), 3) := by decide +kernel
theorem dX7_weigh_62 : decode cX7_weigh 62 = .ok (.return_, 1) := by decide +kernel
theorem dX7_tearsInAll_0 : decode cX7_tearsInAll 0 = .ok (.aload_n 0, 1) := by decide +kernel
theorem dX7_tearsInAll_1 : decode cX7_tearsInAll 1 = .ok (.getfield 13, 3) := by decide +kernel
theorem dX7_tearsInAll_4 : decode cX7_tearsInAll 4 = .ok (.iconst 0, 1) := by decide +kernel
theorem dX7_tearsInAll_5 : decode cX7_tearsInAll 5 = .ok (.iaload, 1) := by decide +kernel
theorem dX7_tearsInAll_6 : decode cX7_tearsInAll 6 = .ok (.ireturn, 1) := by decide +kernel
theorem dX7_dollAt_0 : decode cX7_dollAt 0 = .ok (.iconst 0, 1) := by decide +kernel
theorem dX7_dollAt_1 : decode cX7_dollAt 1 = .ok (.istore_n 3, 1) := by decide +kernel
theorem dX7_dollAt_2 : decode cX7_dollAt 2 = .ok (.iconst 0, 1) := by decide +kernel
theorem dX7_dollAt_3 : decode cX7_dollAt 3 = .ok (.istore 4, 2) := by decide +kernel
theorem dX7_dollAt_5 : decode cX7_dollAt 5 = .ok (.iload 4, 2) := by decide +kernel
theorem dX7_dollAt_7 : decode cX7_dollAt 7 = .ok (.iload_n 2, 1) := by decide +kernel
theorem dX7_dollAt_8 : decode cX7_dollAt 8 = .ok (.if_icmp .ge 30, 3) := by decide +kernel
theorem dX7_dollAt_11 : decode cX7_dollAt 11 = .ok (.aload_n 0, 1) := by decide +kernel
theorem dX7_dollAt_12 : decode cX7_dollAt 12 = .ok (.aload_n 1, 1) := by decide +kernel
theorem dX7_dollAt_13 : decode cX7_dollAt 13 = .ok (.iload_n 3, 1) := by decide +kernel
theorem dX7_dollAt_14 : decode cX7_dollAt 14 = .ok (.invokevirtual 21, 3) := by decide +kernel
theorem dX7_dollAt_17 : decode cX7_dollAt 17 = .ok (.istore 5, 2) := by decide +kernel
theorem dX7_dollAt_19 : decode cX7_dollAt 19 = .ok (.iload 5, 2) := by decide +kernel
theorem dX7_dollAt_21 : decode cX7_dollAt 21 = .ok (.iconst (-1), 1) := by decide +kernel
theorem dX7_dollAt_22 : decode cX7_dollAt 22 = .ok (.if_icmp .eq 10, 3) := by decide +kernel
theorem dX7_dollAt_25 : decode cX7_dollAt 25 = .ok (.iload_n 3, 1) := by decide +kernel
theorem dX7_dollAt_26 : decode cX7_dollAt 26 = .ok (.iconst 1, 1) := by decide +kernel
theorem dX7_dollAt_27 : decode cX7_dollAt 27 = .ok (.iload 5, 2) := by decide +kernel
theorem dX7_dollAt_29 : decode cX7_dollAt 29 = .ok (.ishl, 1) := by decide +kernel
theorem dX7_dollAt_30 : decode cX7_dollAt 30 = .ok (.ior, 1) := by decide +kernel
theorem dX7_dollAt_31 : decode cX7_dollAt 31 = .ok (.istore_n 3, 1) := by decide +kernel
theorem dX7_dollAt_32 : decode cX7_dollAt 32 = .ok (.iinc 4 1, 3) := by decide +kernel
theorem dX7_dollAt_35 : decode cX7_dollAt 35 = .ok (.goto (-30), 3) := by decide +kernel
theorem dX7_dollAt_38 : decode cX7_dollAt 38 = .ok (.aload_n 0, 1) := by decide +kernel
theorem dX7_dollAt_39 : decode cX7_dollAt 39 = .ok (.aload_n 1, 1) := by decide +kernel
theorem dX7_dollAt_40 : decode cX7_dollAt 40 = .ok (.iload_n 3, 1) := by decide +kernel
theorem dX7_dollAt_41 : decode cX7_dollAt 41 = .ok (.invokevirtual 21, 3) := by decide +kernel
theorem dX7_dollAt_44 : decode cX7_dollAt 44 = .ok (.ireturn, 1) := by decide +kernel
theorem dX7_firstNext_0 : decode cX7_firstNext 0 = .ok (.iconst (-1), 1) := by decide +kernel
theorem dX7_firstNext_1 : decode cX7_firstNext 1 = .ok (.istore_n 3, 1) := by decide +kernel
theorem dX7_firstNext_2 : decode cX7_firstNext 2 = .ok (.iconst 0, 1) := by decide +kernel
theorem dX7_firstNext_3 : decode cX7_firstNext 3 = .ok (.istore 4, 2) := by decide +kernel
theorem dX7_firstNext_5 : decode cX7_firstNext 5 = .ok (.iconst 0, 1) := by decide +kernel
theorem dX7_firstNext_6 : decode cX7_firstNext 6 = .ok (.istore 5, 2) := by decide +kernel
theorem dX7_firstNext_8 : decode cX7_firstNext 8 = .ok (.iload 5, 2) := by decide +kernel
theorem dX7_firstNext_10 : decode cX7_firstNext 10 = .ok (.aload_n 1, 1) := by decide +kernel
theorem dX7_firstNext_11 : decode cX7_firstNext 11 = .ok (.getfield 17, 3) := by decide +kernel
theorem dX7_firstNext_14 : decode cX7_firstNext 14 = .ok (.if_icmp .ge 47, 3) := by decide +kernel
theorem dX7_firstNext_17 : decode cX7_firstNext 17 = .ok (.iload_n 2, 1) := by decide +kernel
theorem dX7_firstNext_18 : decode cX7_firstNext 18 = .ok (.iload 5, 2) := by decide +kernel
theorem dX7_firstNext_20 : decode cX7_firstNext 20 = .ok (.ishr, 1) := by decide +kernel
theorem dX7_firstNext_21 : decode cX7_firstNext 21 = .ok (.iconst 1, 1) := by decide +kernel
theorem dX7_firstNext_22 : decode cX7_firstNext 22 = .ok (.iand, 1) := by decide +kernel
theorem dX7_firstNext_23 : decode cX7_firstNext 23 = .ok (.ifCond .ne 32, 3) := by decide +kernel
theorem dX7_firstNext_26 : decode cX7_firstNext 26 = .ok (.aload_n 0, 1) := by decide +kernel
theorem dX7_firstNext_27 : decode cX7_firstNext 27 = .ok (.aload_n 1, 1) := by decide +kernel
theorem dX7_firstNext_28 : decode cX7_firstNext 28 = .ok (.iload_n 2, 1) := by decide +kernel
theorem dX7_firstNext_29 : decode cX7_firstNext 29 = .ok (.iload 5, 2) := by decide +kernel
theorem dX7_firstNext_31 : decode cX7_firstNext 31 = .ok (.invokevirtual 25, 3) := by decide +kernel
theorem dX7_firstNext_34 : decode cX7_firstNext 34 = .ok (.istore 6, 2) := by decide +kernel
theorem dX7_firstNext_36 : decode cX7_firstNext 36 = .ok (.iload_n 3, 1) := by decide +kernel
theorem dX7_firstNext_37 : decode cX7_firstNext 37 = .ok (.iconst (-1), 1) := by decide +kernel
theorem dX7_firstNext_38 : decode cX7_firstNext 38 = .ok (.if_icmp .eq 10, 3) := by decide +kernel
theorem dX7_firstNext_41 : decode cX7_firstNext 41 = .ok (.iload 6, 2) := by decide +kernel
theorem dX7_firstNext_43 : decode cX7_firstNext 43 = .ok (.iload 4, 2) := by decide +kernel
theorem dX7_firstNext_45 : decode cX7_firstNext 45 = .ok (.if_icmp .ge 10, 3) := by decide +kernel
theorem dX7_firstNext_48 : decode cX7_firstNext 48 = .ok (.iload 5, 2) := by decide +kernel
theorem dX7_firstNext_50 : decode cX7_firstNext 50 = .ok (.istore_n 3, 1) := by decide +kernel
theorem dX7_firstNext_51 : decode cX7_firstNext 51 = .ok (.iload 6, 2) := by decide +kernel
theorem dX7_firstNext_53 : decode cX7_firstNext 53 = .ok (.istore 4, 2) := by decide +kernel
theorem dX7_firstNext_55 : decode cX7_firstNext 55 = .ok (.iinc 5 1, 3) := by decide +kernel
theorem dX7_firstNext_58 : decode cX7_firstNext 58 = .ok (.goto (-50), 3) := by decide +kernel
theorem dX7_firstNext_61 : decode cX7_firstNext 61 = .ok (.iload_n 3, 1) := by decide +kernel
theorem dX7_firstNext_62 : decode cX7_firstNext 62 = .ok (.ireturn, 1) := by decide +kernel
theorem dX7_costOfNext_0 : decode cX7_costOfNext 0 = .ok (.iload_n 2, 1) := by decide +kernel
theorem dX7_costOfNext_1 : decode cX7_costOfNext 1 = .ok (.iconst 1, 1) := by decide +kernel
theorem dX7_costOfNext_2 : decode cX7_costOfNext 2 = .ok (.iload_n 3, 1) := by decide +kernel
theorem dX7_costOfNext_3 : decode cX7_costOfNext 3 = .ok (.ishl, 1) := by decide +kernel
theorem dX7_costOfNext_4 : decode cX7_costOfNext 4 = .ok (.ior, 1) := by decide +kernel
theorem dX7_costOfNext_5 : decode cX7_costOfNext 5 = .ok (.istore 4, 2) := by decide +kernel
theorem dX7_costOfNext_7 : decode cX7_costOfNext 7 = .ok (.aload_n 1, 1) := by decide +kernel
theorem dX7_costOfNext_8 : decode cX7_costOfNext 8 = .ok (.getfield 29, 3) := by decide +kernel
theorem dX7_costOfNext_11 : decode cX7_costOfNext 11 = .ok (.iload_n 3, 1) := by decide +kernel
theorem dX7_costOfNext_12 : decode cX7_costOfNext 12 = .ok (.aaload, 1) := by decide +kernel
theorem dX7_costOfNext_13 : decode cX7_costOfNext 13 = .ok (.getfield 33, 3) := by decide +kernel
theorem dX7_costOfNext_16 : decode cX7_costOfNext 16 = .ok (.aload_n 0, 1) := by decide +kernel
theorem dX7_costOfNext_17 : decode cX7_costOfNext 17 = .ok (.aload_n 1, 1) := by decide +kernel
theorem dX7_costOfNext_18 : decode cX7_costOfNext 18 = .ok (.iload 4, 2) := by decide +kernel
theorem dX7_costOfNext_20 : decode cX7_costOfNext 20 = .ok (.invokevirtual 38, 3) := by decide +kernel
theorem dX7_costOfNext_23 : decode cX7_costOfNext 23 = .ok (.imul, 1) := by decide +kernel
theorem dX7_costOfNext_24 : decode cX7_costOfNext 24 = .ok (.aload_n 0, 1) := by decide +kernel
theorem dX7_costOfNext_25 : decode cX7_costOfNext 25 = .ok (.getfield 13, 3) := by decide +kernel
theorem dX7_costOfNext_28 : decode cX7_costOfNext 28 = .ok (.iload 4, 2) := by decide +kernel
theorem dX7_costOfNext_30 : decode cX7_costOfNext 30 = .ok (.iaload, 1) := by decide +kernel
theorem dX7_costOfNext_31 : decode cX7_costOfNext 31 = .ok (.iadd, 1) := by decide +kernel
theorem dX7_costOfNext_32 : decode cX7_costOfNext 32 = .ok (.ireturn, 1) := by decide +kernel
theorem dX7_minutesOf_0 : decode cX7_minutesOf 0 = .ok (.iconst 0, 1) := by decide +kernel
theorem dX7_minutesOf_1 : decode cX7_minutesOf 1 = .ok (.istore_n 3, 1) := by decide +kernel
theorem dX7_minutesOf_2 : decode cX7_minutesOf 2 = .ok (.iconst 0, 1) := by decide +kernel
theorem dX7_minutesOf_3 : decode cX7_minutesOf 3 = .ok (.istore 4, 2) := by decide +kernel
theorem dX7_minutesOf_5 : decode cX7_minutesOf 5 = .ok (.iload 4, 2) := by decide +kernel
theorem dX7_minutesOf_7 : decode cX7_minutesOf 7 = .ok (.aload_n 1, 1) := by decide +kernel
theorem dX7_minutesOf_8 : decode cX7_minutesOf 8 = .ok (.getfield 17, 3) := by decide +kernel
theorem dX7_minutesOf_11 : decode cX7_minutesOf 11 = .ok (.if_icmp .ge 31, 3) := by decide +kernel
theorem dX7_minutesOf_14 : decode cX7_minutesOf 14 = .ok (.iload_n 2, 1) := by decide +kernel
theorem dX7_minutesOf_15 : decode cX7_minutesOf 15 = .ok (.iload 4, 2) := by decide +kernel
theorem dX7_minutesOf_17 : decode cX7_minutesOf 17 = .ok (.ishr, 1) := by decide +kernel
theorem dX7_minutesOf_18 : decode cX7_minutesOf 18 = .ok (.iconst 1, 1) := by decide +kernel
theorem dX7_minutesOf_19 : decode cX7_minutesOf 19 = .ok (.iand, 1) := by decide +kernel
theorem dX7_minutesOf_20 : decode cX7_minutesOf 20 = .ok (.ifCond .eq 16, 3) := by decide +kernel
theorem dX7_minutesOf_23 : decode cX7_minutesOf 23 = .ok (.iload_n 3, 1) := by decide +kernel
theorem dX7_minutesOf_24 : decode cX7_minutesOf 24 = .ok (.aload_n 1, 1) := by decide +kernel
theorem dX7_minutesOf_25 : decode cX7_minutesOf 25 = .ok (.getfield 29, 3) := by decide +kernel
theorem dX7_minutesOf_28 : decode cX7_minutesOf 28 = .ok (.iload 4, 2) := by decide +kernel
theorem dX7_minutesOf_30 : decode cX7_minutesOf 30 = .ok (.aaload, 1) := by decide +kernel
theorem dX7_minutesOf_31 : decode cX7_minutesOf 31 = .ok (.getfield 41, 3) := by decide +kernel
theorem dX7_minutesOf_34 : decode cX7_minutesOf 34 = .ok (.iadd, 1) := by decide +kernel
theorem dX7_minutesOf_35 : decode cX7_minutesOf 35 = .ok (.istore_n 3, 1) := by decide +kernel
theorem dX7_minutesOf_36 : decode cX7_minutesOf 36 = .ok (.iinc 4 1, 3) := by decide +kernel
theorem dX7_minutesOf_39 : decode cX7_minutesOf 39 = .ok (.goto (-34), 3) := by decide +kernel
theorem dX7_minutesOf_42 : decode cX7_minutesOf 42 = .ok (.iload_n 3, 1) := by decide +kernel
theorem dX7_minutesOf_43 : decode cX7_minutesOf 43 = .ok (.ireturn, 1) := by decide +kernel
theorem dX7_tearsOf_0 : decode cX7_tearsOf 0 = .ok (.iconst 0, 1) := by decide +kernel
theorem dX7_tearsOf_1 : decode cX7_tearsOf 1 = .ok (.istore_n 3, 1) := by decide +kernel
theorem dX7_tearsOf_2 : decode cX7_tearsOf 2 = .ok (.iconst 0, 1) := by decide +kernel
theorem dX7_tearsOf_3 : decode cX7_tearsOf 3 = .ok (.istore 4, 2) := by decide +kernel
theorem dX7_tearsOf_5 : decode cX7_tearsOf 5 = .ok (.iload 4, 2) := by decide +kernel
theorem dX7_tearsOf_7 : decode cX7_tearsOf 7 = .ok (.aload_n 1, 1) := by decide +kernel
theorem dX7_tearsOf_8 : decode cX7_tearsOf 8 = .ok (.getfield 17, 3) := by decide +kernel
theorem dX7_tearsOf_11 : decode cX7_tearsOf 11 = .ok (.if_icmp .ge 31, 3) := by decide +kernel
theorem dX7_tearsOf_14 : decode cX7_tearsOf 14 = .ok (.iload_n 2, 1) := by decide +kernel
theorem dX7_tearsOf_15 : decode cX7_tearsOf 15 = .ok (.iload 4, 2) := by decide +kernel
theorem dX7_tearsOf_17 : decode cX7_tearsOf 17 = .ok (.ishr, 1) := by decide +kernel
theorem dX7_tearsOf_18 : decode cX7_tearsOf 18 = .ok (.iconst 1, 1) := by decide +kernel
theorem dX7_tearsOf_19 : decode cX7_tearsOf 19 = .ok (.iand, 1) := by decide +kernel
theorem dX7_tearsOf_20 : decode cX7_tearsOf 20 = .ok (.ifCond .eq 16, 3) := by decide +kernel
theorem dX7_tearsOf_23 : decode cX7_tearsOf 23 = .ok (.iload_n 3, 1) := by decide +kernel
theorem dX7_tearsOf_24 : decode cX7_tearsOf 24 = .ok (.aload_n 1, 1) := by decide +kernel
theorem dX7_tearsOf_25 : decode cX7_tearsOf 25 = .ok (.getfield 29, 3) := by decide +kernel
theorem dX7_tearsOf_28 : decode cX7_tearsOf 28 = .ok (.iload 4, 2) := by decide +kernel
theorem dX7_tearsOf_30 : decode cX7_tearsOf 30 = .ok (.aaload, 1) := by decide +kernel
theorem dX7_tearsOf_31 : decode cX7_tearsOf 31 = .ok (.getfield 33, 3) := by decide +kernel
theorem dX7_tearsOf_34 : decode cX7_tearsOf 34 = .ok (.iadd, 1) := by decide +kernel
theorem dX7_tearsOf_35 : decode cX7_tearsOf 35 = .ok (.istore_n 3, 1) := by decide +kernel
theorem dX7_tearsOf_36 : decode cX7_tearsOf 36 = .ok (.iinc 4 1, 3) := by decide +kernel
theorem dX7_tearsOf_39 : decode cX7_tearsOf 39 = .ok (.goto (-34), 3) := by decide +kernel
theorem dX7_tearsOf_42 : decode cX7_tearsOf 42 = .ok (.iload_n 3, 1) := by decide +kernel
theorem dX7_tearsOf_43 : decode cX7_tearsOf 43 = .ok (.ireturn, 1) := by decide +kernel
theorem dX7_doneWithin_0 : decode cX7_doneWithin 0 = .ok (.iconst 0, 1) := by decide +kernel
theorem dX7_doneWithin_1 : decode cX7_doneWithin 1 = .ok (.istore_n 3, 1) := by decide +kernel
theorem dX7_doneWithin_2 : decode cX7_doneWithin 2 = .ok (.iconst 0, 1) := by decide +kernel
theorem dX7_doneWithin_3 : decode cX7_doneWithin 3 = .ok (.istore 4, 2) := by decide +kernel
theorem dX7_doneWithin_5 : decode cX7_doneWithin 5 = .ok (.iconst 1, 1) := by decide +kernel
theorem dX7_doneWithin_6 : decode cX7_doneWithin 6 = .ok (.istore 5, 2) := by decide +kernel
theorem dX7_doneWithin_8 : decode cX7_doneWithin 8 = .ok (.iload 5, 2) := by decide +kernel
theorem dX7_doneWithin_10 : decode cX7_doneWithin 10 = .ok (.iconst 1, 1) := by decide +kernel
theorem dX7_doneWithin_11 : decode cX7_doneWithin 11 = .ok (.aload_n 1, 1) := by decide +kernel
theorem dX7_doneWithin_12 : decode cX7_doneWithin 12 = .ok (.getfield 17, 3) := by decide +kernel
theorem dX7_doneWithin_15 : decode cX7_doneWithin 15 = .ok (.ishl, 1) := by decide +kernel
theorem dX7_doneWithin_16 : decode cX7_doneWithin 16 = .ok (.if_icmp .ge 44, 3) := by decide +kernel
theorem dX7_doneWithin_19 : decode cX7_doneWithin 19 = .ok (.aload_n 0, 1) := by decide +kernel
theorem dX7_doneWithin_20 : decode cX7_doneWithin 20 = .ok (.aload_n 1, 1) := by decide +kernel
theorem dX7_doneWithin_21 : decode cX7_doneWithin 21 = .ok (.iload 5, 2) := by decide +kernel
theorem dX7_doneWithin_23 : decode cX7_doneWithin 23 = .ok (.invokevirtual 38, 3) := by decide +kernel
theorem dX7_doneWithin_26 : decode cX7_doneWithin 26 = .ok (.iload_n 2, 1) := by decide +kernel
theorem dX7_doneWithin_27 : decode cX7_doneWithin 27 = .ok (.if_icmp .gt 27, 3) := by decide +kernel
theorem dX7_doneWithin_30 : decode cX7_doneWithin 30 = .ok (.aload_n 0, 1) := by decide +kernel
theorem dX7_doneWithin_31 : decode cX7_doneWithin 31 = .ok (.aload_n 1, 1) := by decide +kernel
theorem dX7_doneWithin_32 : decode cX7_doneWithin 32 = .ok (.iload 5, 2) := by decide +kernel
theorem dX7_doneWithin_34 : decode cX7_doneWithin 34 = .ok (.invokevirtual 44, 3) := by decide +kernel
theorem dX7_doneWithin_37 : decode cX7_doneWithin 37 = .ok (.iload 4, 2) := by decide +kernel
theorem dX7_doneWithin_39 : decode cX7_doneWithin 39 = .ok (.if_icmp .le 15, 3) := by decide +kernel
theorem dX7_doneWithin_42 : decode cX7_doneWithin 42 = .ok (.iload 5, 2) := by decide +kernel
theorem dX7_doneWithin_44 : decode cX7_doneWithin 44 = .ok (.istore_n 3, 1) := by decide +kernel
theorem dX7_doneWithin_45 : decode cX7_doneWithin 45 = .ok (.aload_n 0, 1) := by decide +kernel
theorem dX7_doneWithin_46 : decode cX7_doneWithin 46 = .ok (.aload_n 1, 1) := by decide +kernel
theorem dX7_doneWithin_47 : decode cX7_doneWithin 47 = .ok (.iload 5, 2) := by decide +kernel
theorem dX7_doneWithin_49 : decode cX7_doneWithin 49 = .ok (.invokevirtual 44, 3) := by decide +kernel
theorem dX7_doneWithin_52 : decode cX7_doneWithin 52 = .ok (.istore 4, 2) := by decide +kernel
theorem dX7_doneWithin_54 : decode cX7_doneWithin 54 = .ok (.iinc 5 1, 3) := by decide +kernel
theorem dX7_doneWithin_57 : decode cX7_doneWithin 57 = .ok (.goto (-49), 3) := by decide +kernel
theorem dX7_doneWithin_60 : decode cX7_doneWithin 60 = .ok (.iload_n 3, 1) := by decide +kernel
theorem dX7_doneWithin_61 : decode cX7_doneWithin 61 = .ok (.ireturn, 1) := by decide +kernel
theorem dX8_init_0 : decode cX8_init 0 = .ok (.aload_n 0, 1) := by decide +kernel
theorem dX8_init_1 : decode cX8_init 1 = .ok (.invokespecial 1, 3) := by decide +kernel
theorem dX8_init_4 : decode cX8_init 4 = .ok (.aload_n 0, 1) := by decide +kernel
theorem dX8_init_5 : decode cX8_init 5 = .ok (.new 7, 3) := by decide +kernel
theorem dX8_init_8 : decode cX8_init 8 = .ok (.dup, 1) := by decide +kernel
theorem dX8_init_9 : decode cX8_init 9 = .ok (.invokespecial 9, 3) := by decide +kernel
theorem dX8_init_12 : decode cX8_init 12 = .ok (.putfield 10, 3) := by decide +kernel
theorem dX8_init_15 : decode cX8_init 15 = .ok (.aload_n 0, 1) := by decide +kernel
theorem dX8_init_16 : decode cX8_init 16 = .ok (.new 7, 3) := by decide +kernel
theorem dX8_init_19 : decode cX8_init 19 = .ok (.dup, 1) := by decide +kernel
theorem dX8_init_20 : decode cX8_init 20 = .ok (.invokespecial 9, 3) := by decide +kernel
theorem dX8_init_23 : decode cX8_init 23 = .ok (.putfield 16, 3) := by decide +kernel
theorem dX8_init_26 : decode cX8_init 26 = .ok (.aload_n 0, 1) := by decide +kernel
theorem dX8_init_27 : decode cX8_init 27 = .ok (.new 7, 3) := by decide +kernel
theorem dX8_init_30 : decode cX8_init 30 = .ok (.dup, 1) := by decide +kernel
theorem dX8_init_31 : decode cX8_init 31 = .ok (.invokespecial 9, 3) := by decide +kernel
theorem dX8_init_34 : decode cX8_init 34 = .ok (.putfield 19, 3) := by decide +kernel
theorem dX8_init_37 : decode cX8_init 37 = .ok (.aload_n 0, 1) := by decide +kernel
theorem dX8_init_38 : decode cX8_init 38 = .ok (.iconst 0, 1) := by decide +kernel
theorem dX8_init_39 : decode cX8_init 39 = .ok (.putfield 22, 3) := by decide +kernel
theorem dX8_init_42 : decode cX8_init 42 = .ok (.aload_n 0, 1) := by decide +kernel
theorem dX8_init_43 : decode cX8_init 43 = .ok (.bipush 8, 2) := by decide +kernel
theorem dX8_init_45 : decode cX8_init 45 = .ok (.anewarray 26, 3) := by decide +kernel
theorem dX8_init_48 : decode cX8_init 48 = .ok (.putfield 28, 3) := by decide +kernel
theorem dX8_init_51 : decode cX8_init 51 = .ok (.aload_n 0, 1) := by decide +kernel
theorem dX8_init_52 : decode cX8_init 52 = .ok (.bipush 8, 2) := by decide +kernel
theorem dX8_init_54 : decode cX8_init 54 = .ok (.newarray .int, 2) := by decide +kernel
theorem dX8_init_56 : decode cX8_init 56 = .ok (.putfield 32, 3) := by decide +kernel
theorem dX8_init_59 : decode cX8_init 59 = .ok (.aload_n 0, 1) := by decide +kernel
theorem dX8_init_60 : decode cX8_init 60 = .ok (.new 36, 3) := by decide +kernel
theorem dX8_init_63 : decode cX8_init 63 = .ok (.dup, 1) := by decide +kernel
theorem dX8_init_64 : decode cX8_init 64 = .ok (.invokespecial 38, 3) := by decide +kernel
theorem dX8_init_67 : decode cX8_init 67 = .ok (.putfield 39, 3) := by decide +kernel
theorem dX8_init_70 : decode cX8_init 70 = .ok (.aload_n 0, 1) := by decide +kernel
theorem dX8_init_71 : decode cX8_init 71 = .ok (.new 43, 3) := by decide +kernel
theorem dX8_init_74 : decode cX8_init 74 = .ok (.dup, 1) := by decide +kernel
theorem dX8_init_75 : decode cX8_init 75 = .ok (.invokespecial 45, 3) := by decide +kernel
theorem dX8_init_78 : decode cX8_init 78 = .ok (.putfield 46, 3) := by decide +kernel
theorem dX8_init_81 : decode cX8_init 81 = .ok (.iconst 0, 1) := by decide +kernel
theorem dX8_init_82 : decode cX8_init 82 = .ok (.istore_n 1, 1) := by decide +kernel
theorem dX8_init_83 : decode cX8_init 83 = .ok (.iload_n 1, 1) := by decide +kernel
theorem dX8_init_84 : decode cX8_init 84 = .ok (.bipush 8, 2) := by decide +kernel
theorem dX8_init_86 : decode cX8_init 86 = .ok (.if_icmp .ge 22, 3) := by decide +kernel
theorem dX8_init_89 : decode cX8_init 89 = .ok (.aload_n 0, 1) := by decide +kernel
theorem dX8_init_90 : decode cX8_init 90 = .ok (.getfield 28, 3) := by decide +kernel
theorem dX8_init_93 : decode cX8_init 93 = .ok (.iload_n 1, 1) := by decide +kernel
theorem dX8_init_94 : decode cX8_init 94 = .ok (.new 26, 3) := by decide +kernel
theorem dX8_init_97 : decode cX8_init 97 = .ok (.dup, 1) := by decide +kernel
theorem dX8_init_98 : decode cX8_init 98 = .ok (.invokespecial 50, 3) := by decide +kernel
theorem dX8_init_101 : decode cX8_init 101 = .ok (.aastore, 1) := by decide +kernel
theorem dX8_init_102 : decode cX8_init 102 = .ok (.iinc 1 1, 3) := by decide +kernel
theorem dX8_init_105 : decode cX8_init 105 = .ok (.goto (-22), 3) := by decide +kernel
theorem dX8_init_108 : decode cX8_init 108 = .ok (.aload_n 0, 1) := by decide +kernel
theorem dX8_init_109 : decode cX8_init 109 = .ok (.new 51, 3) := by decide +kernel
theorem dX8_init_112 : decode cX8_init 112 = .ok (.dup, 1) := by decide +kernel
theorem dX8_init_113 : decode cX8_init 113 = .ok (.aload_n 0, 1) := by decide +kernel
theorem dX8_init_114 : decode cX8_init 114 = .ok (.getfield 19, 3) := by decide +kernel
theorem dX8_init_117 : decode cX8_init 117 = .ok (.aload_n 0, 1) := by decide +kernel
theorem dX8_init_118 : decode cX8_init 118 = .ok (.getfield 28, 3) := by decide +kernel
theorem dX8_init_121 : decode cX8_init 121 = .ok (.iconst 0, 1) := by decide +kernel
theorem dX8_init_122 : decode cX8_init 122 = .ok (.aaload, 1) := by decide +kernel
theorem dX8_init_123 : decode cX8_init 123 = .ok (.invokespecial 53, 3) := by decide +kernel
theorem dX8_init_126 : decode cX8_init 126 = .ok (.putfield 56, 3) := by decide +kernel
theorem dX8_init_129 : decode cX8_init 129 = .ok (.aload_n 0, 1) := by decide +kernel
theorem dX8_init_130 : decode cX8_init 130 = .ok (.new 60, 3) := by decide +kernel
theorem dX8_init_133 : decode cX8_init 133 = .ok (.dup, 1) := by decide +kernel
theorem dX8_init_134 : decode cX8_init 134 = .ok (.aload_n 0, 1) := by decide +kernel
theorem dX8_init_135 : decode cX8_init 135 = .ok (.getfield 10, 3) := by decide +kernel
theorem dX8_init_138 : decode cX8_init 138 = .ok (.getfield 62, 3) := by decide +kernel
theorem dX8_init_141 : decode cX8_init 141 = .ok (.iconst 0, 1) := by decide +kernel
theorem dX8_init_142 : decode cX8_init 142 = .ok (.aaload, 1) := by decide +kernel
theorem dX8_init_143 : decode cX8_init 143 = .ok (.invokespecial 66, 3) := by decide +kernel
theorem dX8_init_146 : decode cX8_init 146 = .ok (.putfield 69, 3) := by decide +kernel
theorem dX8_init_149 : decode cX8_init 149 = .ok (.return_, 1) := by decide +kernel
theorem dX8_row_0 : decode cX8_row 0 = .ok (.iload_n 1, 1) := by decide +kernel
theorem dX8_row_1 : decode cX8_row 1 = .ok (.invokestatic 73, 3) := by decide +kernel
theorem dX8_row_4 : decode cX8_row 4 = .ok (.ifCond .ne 9, 3) := by decide +kernel
theorem dX8_row_7 : decode cX8_row 7 = .ok (.aload_n 0, 1) := by decide +kernel
theorem dX8_row_8 : decode cX8_row 8 = .ok (.iconst 1, 1) := by decide +kernel
theorem dX8_row_9 : decode cX8_row 9 = .ok (.invokevirtual 77, 3) := by decide +kernel
theorem dX8_row_12 : decode cX8_row 12 = .ok (.ireturn, 1) := by decide +kernel
theorem dX8_row_13 : decode cX8_row 13 = .ok (.iload_n 3, 1) := by decide +kernel
theorem dX8_row_14 : decode cX8_row 14 = .ok (.ifCond .ge 9, 3) := by decide +kernel
theorem dX8_row_17 : decode cX8_row 17 = .ok (.aload_n 0, 1) := by decide +kernel
theorem dX8_row_18 : decode cX8_row 18 = .ok (.iconst 4, 1) := by decide +kernel
theorem dX8_row_19 : decode cX8_row 19 = .ok (.invokevirtual 77, 3) := by decide +kernel
theorem dX8_row_22 : decode cX8_row 22 = .ok (.ireturn, 1) := by decide +kernel
theorem dX8_row_23 : decode cX8_row 23 = .ok (.iload_n 2, 1) := by decide +kernel
theorem dX8_row_24 : decode cX8_row 24 = .ok (.iconst 0, 1) := by decide +kernel
theorem dX8_row_25 : decode cX8_row 25 = .ok (.iconst 3, 1) := by decide +kernel
theorem dX8_row_26 : decode cX8_row 26 = .ok (.invokestatic 81, 3) := by decide +kernel
theorem dX8_row_29 : decode cX8_row 29 = .ok (.ifCond .ne 10, 3) := by decide +kernel
theorem dX8_row_32 : decode cX8_row 32 = .ok (.aload_n 0, 1) := by decide +kernel
theorem dX8_row_33 : decode cX8_row 33 = .ok (.bipush 6, 2) := by decide +kernel
theorem dX8_row_35 : decode cX8_row 35 = .ok (.invokevirtual 77, 3) := by decide +kernel
theorem dX8_row_38 : decode cX8_row 38 = .ok (.ireturn, 1) := by decide +kernel
theorem dX8_row_39 : decode cX8_row 39 = .ok (.iload_n 3, 1) := by decide +kernel
theorem dX8_row_40 : decode cX8_row 40 = .ok (.sipush 160, 3) := by decide +kernel
theorem dX8_row_43 : decode cX8_row 43 = .ok (.if_icmp .le 10, 3) := by decide +kernel
theorem dX8_row_46 : decode cX8_row 46 = .ok (.aload_n 0, 1) := by decide +kernel
theorem dX8_row_47 : decode cX8_row 47 = .ok (.bipush 7, 2) := by decide +kernel
theorem dX8_row_49 : decode cX8_row 49 = .ok (.invokevirtual 77, 3) := by decide +kernel
theorem dX8_row_52 : decode cX8_row 52 = .ok (.ireturn, 1) := by decide +kernel
theorem dX8_row_53 : decode cX8_row 53 = .ok (.aload_n 0, 1) := by decide +kernel
theorem dX8_row_54 : decode cX8_row 54 = .ok (.getfield 28, 3) := by decide +kernel
theorem dX8_row_57 : decode cX8_row 57 = .ok (.iload_n 1, 1) := by decide +kernel
theorem dX8_row_58 : decode cX8_row 58 = .ok (.aaload, 1) := by decide +kernel
theorem dX8_row_59 : decode cX8_row 59 = .ok (.iload_n 2, 1) := by decide +kernel
theorem dX8_row_60 : decode cX8_row 60 = .ok (.iload_n 3, 1) := by decide +kernel
theorem dX8_row_61 : decode cX8_row 61 = .ok (.invokevirtual 85, 3) := by decide +kernel
theorem dX8_row_64 : decode cX8_row 64 = .ok (.iconst 1, 1) := by decide +kernel
theorem dX8_row_65 : decode cX8_row 65 = .ok (.ireturn, 1) := by decide +kernel
theorem dX8_set_0 : decode cX8_set 0 = .ok (.aload_n 0, 1) := by decide +kernel
theorem dX8_set_1 : decode cX8_set 1 = .ok (.iload_n 1, 1) := by decide +kernel
theorem dX8_set_2 : decode cX8_set 2 = .ok (.invokevirtual 89, 3) := by decide +kernel
theorem dX8_set_5 : decode cX8_set 5 = .ok (.istore 5, 2) := by decide +kernel
theorem dX8_set_7 : decode cX8_set 7 = .ok (.iload 5, 2) := by decide +kernel
theorem dX8_set_9 : decode cX8_set 9 = .ok (.ifCond .eq 10, 3) := by decide +kernel
theorem dX8_set_12 : decode cX8_set 12 = .ok (.aload_n 0, 1) := by decide +kernel
theorem dX8_set_13 : decode cX8_set 13 = .ok (.iload 5, 2) := by decide +kernel
theorem dX8_set_15 : decode cX8_set 15 = .ok (.invokevirtual 77, 3) := by decide +kernel
theorem dX8_set_18 : decode cX8_set 18 = .ok (.ireturn, 1) := by decide +kernel
theorem dX8_set_19 : decode cX8_set 19 = .ok (.aload_n 0, 1) := by decide +kernel
theorem dX8_set_20 : decode cX8_set 20 = .ok (.getfield 28, 3) := by decide +kernel
theorem dX8_set_23 : decode cX8_set 23 = .ok (.iload_n 1, 1) := by decide +kernel
theorem dX8_set_24 : decode cX8_set 24 = .ok (.aaload, 1) := by decide +kernel
theorem dX8_set_25 : decode cX8_set 25 = .ok (.iload_n 2, 1) := by decide +kernel
theorem dX8_set_26 : decode cX8_set 26 = .ok (.invokevirtual 92, 3) := by decide +kernel
theorem dX8_set_29 : decode cX8_set 29 = .ok (.ifCond .ne 9, 3) := by decide +kernel
theorem dX8_set_32 : decode cX8_set 32 = .ok (.aload_n 0, 1) := by decide +kernel
theorem dX8_set_33 : decode cX8_set 33 = .ok (.iconst 5, 1) := by decide +kernel
theorem dX8_set_34 : decode cX8_set 34 = .ok (.invokevirtual 77, 3) := by decide +kernel
theorem dX8_set_37 : decode cX8_set 37 = .ok (.ireturn, 1) := by decide +kernel
theorem dX8_set_38 : decode cX8_set 38 = .ok (.aload_n 0, 1) := by decide +kernel
theorem dX8_set_39 : decode cX8_set 39 = .ok (.getfield 28, 3) := by decide +kernel
theorem dX8_set_42 : decode cX8_set 42 = .ok (.iload_n 1, 1) := by decide +kernel
theorem dX8_set_43 : decode cX8_set 43 = .ok (.aaload, 1) := by decide +kernel
theorem dX8_set_44 : decode cX8_set 44 = .ok (.iload_n 2, 1) := by decide +kernel
theorem dX8_set_45 : decode cX8_set 45 = .ok (.lload_n 3, 1) := by decide +kernel
theorem dX8_set_46 : decode cX8_set 46 = .ok (.invokevirtual 95, 3) := by decide +kernel
theorem dX8_set_49 : decode cX8_set 49 = .ok (.iconst 1, 1) := by decide +kernel
theorem dX8_set_50 : decode cX8_set 50 = .ok (.ireturn, 1) := by decide +kernel
theorem dX8_copy_0 : decode cX8_copy 0 = .ok (.aload_n 0, 1) := by decide +kernel
theorem dX8_copy_1 : decode cX8_copy 1 = .ok (.iload_n 1, 1) := by decide +kernel
theorem dX8_copy_2 : decode cX8_copy 2 = .ok (.iload_n 2, 1) := by decide +kernel
theorem dX8_copy_3 : decode cX8_copy 3 = .ok (.invokevirtual 99, 3) := by decide +kernel
theorem dX8_copy_6 : decode cX8_copy 6 = .ok (.istore 6, 2) := by decide +kernel
theorem dX8_copy_8 : decode cX8_copy 8 = .ok (.iload 6, 2) := by decide +kernel
theorem dX8_copy_10 : decode cX8_copy 10 = .ok (.ifCond .eq 10, 3) := by decide +kernel
theorem dX8_copy_13 : decode cX8_copy 13 = .ok (.aload_n 0, 1) := by decide +kernel
theorem dX8_copy_14 : decode cX8_copy 14 = .ok (.iload 6, 2) := by decide +kernel
theorem dX8_copy_16 : decode cX8_copy 16 = .ok (.invokevirtual 77, 3) := by decide +kernel
theorem dX8_copy_19 : decode cX8_copy 19 = .ok (.ireturn, 1) := by decide +kernel
theorem dX8_copy_20 : decode cX8_copy 20 = .ok (.iload 5, 2) := by decide +kernel
theorem dX8_copy_22 : decode cX8_copy 22 = .ok (.ifCond .ge 9, 3) := by decide +kernel
theorem dX8_copy_25 : decode cX8_copy 25 = .ok (.aload_n 0, 1) := by decide +kernel
theorem dX8_copy_26 : decode cX8_copy 26 = .ok (.iconst 4, 1) := by decide +kernel
theorem dX8_copy_27 : decode cX8_copy 27 = .ok (.invokevirtual 77, 3) := by decide +kernel
theorem dX8_copy_30 : decode cX8_copy 30 = .ok (.ireturn, 1) := by decide +kernel
theorem dX8_copy_31 : decode cX8_copy 31 = .ok (.aload_n 0, 1) := by decide +kernel
theorem dX8_copy_32 : decode cX8_copy 32 = .ok (.getfield 28, 3) := by decide +kernel
theorem dX8_copy_35 : decode cX8_copy 35 = .ok (.iload_n 1, 1) := by decide +kernel
theorem dX8_copy_36 : decode cX8_copy 36 = .ok (.aaload, 1) := by decide +kernel
theorem dX8_copy_37 : decode cX8_copy 37 = .ok (.iload_n 3, 1) := by decide +kernel
theorem dX8_copy_38 : decode cX8_copy 38 = .ok (.iload 5, 2) := by decide +kernel
theorem dX8_copy_40 : decode cX8_copy 40 = .ok (.invokevirtual 103, 3) := by decide +kernel
theorem dX8_copy_43 : decode cX8_copy 43 = .ok (.ifCond .eq 19, 3) := by decide +kernel
theorem dX8_copy_46 : decode cX8_copy 46 = .ok (.aload_n 0, 1) := by decide +kernel
theorem dX8_copy_47 : decode cX8_copy 47 = .ok (.getfield 28, 3) := by decide +kernel
theorem dX8_copy_50 : decode cX8_copy 50 = .ok (.iload_n 2, 1) := by decide +kernel
theorem dX8_copy_51 : decode cX8_copy 51 = .ok (.aaload, 1) := by decide +kernel
theorem dX8_copy_52 : decode cX8_copy 52 = .ok (.iload 4, 2) := by decide +kernel
theorem dX8_copy_54 : decode cX8_copy 54 = .ok (.iload 5, 2) := by decide +kernel
theorem dX8_copy_56 : decode cX8_copy 56 = .ok (.invokevirtual 103, 3) := by decide +kernel
theorem dX8_copy_59 : decode cX8_copy 59 = .ok (.ifCond .ne 9, 3) := by decide +kernel
theorem dX8_copy_62 : decode cX8_copy 62 = .ok (.aload_n 0, 1) := by decide +kernel
theorem dX8_copy_63 : decode cX8_copy 63 = .ok (.iconst 5, 1) := by decide +kernel
theorem dX8_copy_64 : decode cX8_copy 64 = .ok (.invokevirtual 77, 3) := by decide +kernel
theorem dX8_copy_67 : decode cX8_copy 67 = .ok (.ireturn, 1) := by decide +kernel
theorem dX8_copy_68 : decode cX8_copy 68 = .ok (.aload_n 0, 1) := by decide +kernel
theorem dX8_copy_69 : decode cX8_copy 69 = .ok (.getfield 28, 3) := by decide +kernel
theorem dX8_copy_72 : decode cX8_copy 72 = .ok (.iload_n 1, 1) := by decide +kernel
theorem dX8_copy_73 : decode cX8_copy 73 = .ok (.aaload, 1) := by decide +kernel
theorem dX8_copy_74 : decode cX8_copy 74 = .ok (.getfield 107, 3) := by decide +kernel
theorem dX8_copy_77 : decode cX8_copy 77 = .ok (.iload_n 3, 1) := by decide +kernel
theorem dX8_copy_78 : decode cX8_copy 78 = .ok (.aload_n 0, 1) := by decide +kernel
theorem dX8_copy_79 : decode cX8_copy 79 = .ok (.getfield 28, 3) := by decide +kernel
theorem dX8_copy_82 : decode cX8_copy 82 = .ok (.iload_n 2, 1) := by decide +kernel
theorem dX8_copy_83 : decode cX8_copy 83 = .ok (.aaload, 1) := by decide +kernel
theorem dX8_copy_84 : decode cX8_copy 84 = .ok (.getfield 107, 3) := by decide +kernel
theorem dX8_copy_87 : decode cX8_copy 87 = .ok (.iload 4, 2) := by decide +kernel
theorem dX8_copy_89 : decode cX8_copy 89 = .ok (.iload 5, 2) := by decide +kernel
theorem dX8_copy_91 : decode cX8_copy 91 = .ok (.invokestatic 111, 3) := by decide +kernel
theorem dX8_copy_94 : decode cX8_copy 94 = .ok (.iconst 1, 1) := by decide +kernel
theorem dX8_copy_95 : decode cX8_copy 95 = .ok (.ireturn, 1) := by decide +kernel
theorem dX8_element_0 : decode cX8_element 0 = .ok (.iload_n 1, 1) := by decide +kernel
theorem dX8_element_1 : decode cX8_element 1 = .ok (.invokestatic 73, 3) := by decide +kernel
theorem dX8_element_4 : decode cX8_element 4 = .ok (.ifCond .eq 16, 3) := by decide +kernel
theorem dX8_element_7 : decode cX8_element 7 = .ok (.aload_n 0, 1) := by decide +kernel
theorem dX8_element_8 : decode cX8_element 8 = .ok (.getfield 28, 3) := by decide +kernel
theorem dX8_element_11 : decode cX8_element 11 = .ok (.iload_n 1, 1) := by decide +kernel
theorem dX8_element_12 : decode cX8_element 12 = .ok (.aaload, 1) := by decide +kernel
theorem dX8_element_13 : decode cX8_element 13 = .ok (.iload_n 2, 1) := by decide +kernel
theorem dX8_element_14 : decode cX8_element 14 = .ok (.invokevirtual 92, 3) := by decide +kernel
theorem dX8_element_17 : decode cX8_element 17 = .ok (.ifCond .ne 5, 3) := by decide +kernel
theorem dX8_element_20 : decode cX8_element 20 = .ok (.lconst 0, 1) := by decide +kernel
theorem dX8_element_21 : decode cX8_element 21 = .ok (.lreturn, 1) := by decide +kernel
theorem dX8_element_22 : decode cX8_element 22 = .ok (.aload_n 0, 1) := by decide +kernel
theorem dX8_element_23 : decode cX8_element 23 = .ok (.getfield 28, 3) := by decide +kernel
theorem dX8_element_26 : decode cX8_element 26 = .ok (.iload_n 1, 1) := by decide +kernel
theorem dX8_element_27 : decode cX8_element 27 = .ok (.aaload, 1) := by decide +kernel
theorem dX8_element_28 : decode cX8_element 28 = .ok (.getfield 107, 3) := by decide +kernel
theorem dX8_element_31 : decode cX8_element 31 = .ok (.iload_n 2, 1) := by decide +kernel
theorem dX8_element_32 : decode cX8_element 32 = .ok (.laload, 1) := by decide +kernel
theorem dX8_element_33 : decode cX8_element 33 = .ok (.lreturn, 1) := by decide +kernel
theorem dX8_show_0 : decode cX8_show 0 = .ok (.iload_n 1, 1) := by decide +kernel
theorem dX8_show_1 : decode cX8_show 1 = .ok (.invokestatic 73, 3) := by decide +kernel
theorem dX8_show_4 : decode cX8_show 4 = .ok (.ifCond .eq 19, 3) := by decide +kernel
theorem dX8_show_7 : decode cX8_show 7 = .ok (.iload_n 2, 1) := by decide +kernel
theorem dX8_show_8 : decode cX8_show 8 = .ok (.iconst (-1), 1) := by decide +kernel
theorem dX8_show_9 : decode cX8_show 9 = .ok (.if_icmp .eq 20, 3) := by decide +kernel
theorem dX8_show_12 : decode cX8_show 12 = .ok (.aload_n 0, 1) := by decide +kernel
theorem dX8_show_13 : decode cX8_show 13 = .ok (.getfield 10, 3) := by decide +kernel
theorem dX8_show_16 : decode cX8_show 16 = .ok (.iload_n 2, 1) := by decide +kernel
theorem dX8_show_17 : decode cX8_show 17 = .ok (.invokevirtual 117, 3) := by decide +kernel
theorem dX8_show_20 : decode cX8_show 20 = .ok (.ifCond .ne 9, 3) := by decide +kernel
theorem dX8_show_23 : decode cX8_show 23 = .ok (.aload_n 0, 1) := by decide +kernel
theorem dX8_show_24 : decode cX8_show 24 = .ok (.iconst 1, 1) := by decide +kernel
theorem dX8_show_25 : decode cX8_show 25 = .ok (.invokevirtual 77, 3) := by decide +kernel
theorem dX8_show_28 : decode cX8_show 28 = .ok (.ireturn, 1) := by decide +kernel
theorem dX8_show_29 : decode cX8_show 29 = .ok (.iload_n 2, 1) := by decide +kernel
theorem dX8_show_30 : decode cX8_show 30 = .ok (.iconst (-1), 1) := by decide +kernel
theorem dX8_show_31 : decode cX8_show 31 = .ok (.if_icmp .ne 14, 3) := by decide +kernel
theorem dX8_show_34 : decode cX8_show 34 = .ok (.aload_n 0, 1) := by decide +kernel
theorem dX8_show_35 : decode cX8_show 35 = .ok (.getfield 28, 3) := by decide +kernel
theorem dX8_show_38 : decode cX8_show 38 = .ok (.iload_n 1, 1) := by decide +kernel
theorem dX8_show_39 : decode cX8_show 39 = .ok (.aaload, 1) := by decide +kernel
theorem dX8_show_40 : decode cX8_show 40 = .ok (.invokevirtual 120, 3) := by decide +kernel
theorem dX8_show_43 : decode cX8_show 43 = .ok (.iconst 0, 1) := by decide +kernel
theorem dX8_show_44 : decode cX8_show 44 = .ok (.ireturn, 1) := by decide +kernel
theorem dX8_show_45 : decode cX8_show 45 = .ok (.aload_n 0, 1) := by decide +kernel
theorem dX8_show_46 : decode cX8_show 46 = .ok (.getfield 28, 3) := by decide +kernel
theorem dX8_show_49 : decode cX8_show 49 = .ok (.iload_n 1, 1) := by decide +kernel
theorem dX8_show_50 : decode cX8_show 50 = .ok (.aaload, 1) := by decide +kernel
theorem dX8_show_51 : decode cX8_show 51 = .ok (.iload_n 2, 1) := by decide +kernel
theorem dX8_show_52 : decode cX8_show 52 = .ok (.invokevirtual 123, 3) := by decide +kernel
theorem dX8_show_55 : decode cX8_show 55 = .ok (.iconst 1, 1) := by decide +kernel
theorem dX8_show_56 : decode cX8_show 56 = .ok (.ireturn, 1) := by decide +kernel
theorem dX8_holds_0 : decode cX8_holds 0 = .ok (.iload_n 1, 1) := by decide +kernel
theorem dX8_holds_1 : decode cX8_holds 1 = .ok (.invokestatic 73, 3) := by decide +kernel
theorem dX8_holds_4 : decode cX8_holds 4 = .ok (.ifCond .ne 5, 3) := by decide +kernel
theorem dX8_holds_7 : decode cX8_holds 7 = .ok (.iconst (-1), 1) := by decide +kernel
theorem dX8_holds_8 : decode cX8_holds 8 = .ok (.ireturn, 1) := by decide +kernel
theorem dX8_holds_9 : decode cX8_holds 9 = .ok (.aload_n 0, 1) := by decide +kernel
theorem dX8_holds_10 : decode cX8_holds 10 = .ok (.getfield 28, 3) := by decide +kernel
theorem dX8_holds_13 : decode cX8_holds 13 = .ok (.iload_n 1, 1) := by decide +kernel
theorem dX8_holds_14 : decode cX8_holds 14 = .ok (.aaload, 1) := by decide +kernel
theorem dX8_holds_15 : decode cX8_holds 15 = .ok (.astore_n 2, 1) := by decide +kernel
theorem dX8_holds_16 : decode cX8_holds 16 = .ok (.aload_n 2, 1) := by decide +kernel
theorem dX8_holds_17 : decode cX8_holds 17 = .ok (.invokevirtual 127, 3) := by decide +kernel
theorem dX8_holds_20 : decode cX8_holds 20 = .ok (.ifCond .eq 13, 3) := by decide +kernel
theorem dX8_holds_23 : decode cX8_holds 23 = .ok (.bipush 100, 2) := by decide +kernel
theorem dX8_holds_25 : decode cX8_holds 25 = .ok (.aload_n 2, 1) := by decide +kernel
theorem dX8_holds_26 : decode cX8_holds 26 = .ok (.getfield 131, 3) := by decide +kernel
theorem dX8_holds_29 : decode cX8_holds 29 = .ok (.iadd, 1) := by decide +kernel
theorem dX8_holds_30 : decode cX8_holds 30 = .ok (.goto 7, 3) := by decide +kernel
theorem dX8_holds_33 : decode cX8_holds 33 = .ok (.aload_n 2, 1) := by decide +kernel
theorem dX8_holds_34 : decode cX8_holds 34 = .ok (.getfield 135, 3) := by decide +kernel
theorem dX8_holds_37 : decode cX8_holds 37 = .ok (.ireturn, 1) := by decide +kernel
theorem dX8_says_0 : decode cX8_says 0 = .ok (.iload_n 1, 1) := by decide +kernel
theorem dX8_says_1 : decode cX8_says 1 = .ok (.invokestatic 73, 3) := by decide +kernel
theorem dX8_says_4 : decode cX8_says 4 = .ok (.ifCond .eq 13, 3) := by decide +kernel
theorem dX8_says_7 : decode cX8_says 7 = .ok (.iload_n 2, 1) := by decide +kernel
theorem dX8_says_8 : decode cX8_says 8 = .ok (.iconst 0, 1) := by decide +kernel
theorem dX8_says_9 : decode cX8_says 9 = .ok (.bipush 6, 2) := by decide +kernel
theorem dX8_says_11 : decode cX8_says 11 = .ok (.invokestatic 81, 3) := by decide +kernel
theorem dX8_says_14 : decode cX8_says 14 = .ok (.ifCond .ne 9, 3) := by decide +kernel
theorem dX8_says_17 : decode cX8_says 17 = .ok (.aload_n 0, 1) := by decide +kernel
theorem dX8_says_18 : decode cX8_says 18 = .ok (.iconst 1, 1) := by decide +kernel
theorem dX8_says_19 : decode cX8_says 19 = .ok (.invokevirtual 77, 3) := by decide +kernel
theorem dX8_says_22 : decode cX8_says 22 = .ok (.ireturn, 1) := by decide +kernel
theorem dX8_says_23 : decode cX8_says 23 = .ok (.aload_n 0, 1) := by decide +kernel
theorem dX8_says_24 : decode cX8_says 24 = .ok (.getfield 28, 3) := by decide +kernel
theorem dX8_says_27 : decode cX8_says 27 = .ok (.iload_n 1, 1) := by decide +kernel
theorem dX8_says_28 : decode cX8_says 28 = .ok (.aaload, 1) := by decide +kernel
theorem dX8_says_29 : decode cX8_says 29 = .ok (.invokevirtual 127, 3) := by decide +kernel
theorem dX8_says_32 : decode cX8_says 32 = .ok (.ifCond .eq 9, 3) := by decide +kernel
theorem dX8_says_35 : decode cX8_says 35 = .ok (.aload_n 0, 1) := by decide +kernel
theorem dX8_says_36 : decode cX8_says 36 = .ok (.iconst 2, 1) := by decide +kernel
theorem dX8_says_37 : decode cX8_says 37 = .ok (.invokevirtual 77, 3) := by decide +kernel
theorem dX8_says_40 : decode cX8_says 40 = .ok (.ireturn, 1) := by decide +kernel
theorem dX8_says_41 : decode cX8_says 41 = .ok (.aload_n 0, 1) := by decide +kernel
theorem dX8_says_42 : decode cX8_says 42 = .ok (.getfield 28, 3) := by decide +kernel
theorem dX8_says_45 : decode cX8_says 45 = .ok (.iload_n 1, 1) := by decide +kernel
theorem dX8_says_46 : decode cX8_says 46 = .ok (.aaload, 1) := by decide +kernel
theorem dX8_says_47 : decode cX8_says 47 = .ok (.getfield 135, 3) := by decide +kernel
theorem dX8_says_50 : decode cX8_says 50 = .ok (.istore_n 3, 1) := by decide +kernel
theorem dX8_says_51 : decode cX8_says 51 = .ok (.aload_n 0, 1) := by decide +kernel
theorem dX8_says_52 : decode cX8_says 52 = .ok (.getfield 10, 3) := by decide +kernel
theorem dX8_says_55 : decode cX8_says 55 = .ok (.iload_n 3, 1) := by decide +kernel
theorem dX8_says_56 : decode cX8_says 56 = .ok (.invokevirtual 117, 3) := by decide +kernel
theorem dX8_says_59 : decode cX8_says 59 = .ok (.ifCond .ne 9, 3) := by decide +kernel
theorem dX8_says_62 : decode cX8_says 62 = .ok (.aload_n 0, 1) := by decide +kernel
theorem dX8_says_63 : decode cX8_says 63 = .ok (.iconst 3, 1) := by decide +kernel
theorem dX8_says_64 : decode cX8_says 64 = .ok (.invokevirtual 77, 3) := by decide +kernel
theorem dX8_says_67 : decode cX8_says 67 = .ok (.ireturn, 1) := by decide +kernel
theorem dX8_says_68 : decode cX8_says 68 = .ok (.aload_n 0, 1) := by decide +kernel
theorem dX8_says_69 : decode cX8_says 69 = .ok (.getfield 10, 3) := by decide +kernel
theorem dX8_says_72 : decode cX8_says 72 = .ok (.getfield 62, 3) := by decide +kernel
theorem dX8_says_75 : decode cX8_says 75 = .ok (.iload_n 3, 1) := by decide +kernel
theorem dX8_says_76 : decode cX8_says 76 = .ok (.aaload, 1) := by decide +kernel
theorem dX8_says_77 : decode cX8_says 77 = .ok (.astore 4, 2) := by decide +kernel
theorem dX8_says_79 : decode cX8_says 79 = .ok (.aload 4, 2) := by decide +kernel
theorem dX8_says_81 : decode cX8_says 81 = .ok (.iload_n 2, 1) := by decide +kernel
theorem dX8_says_82 : decode cX8_says 82 = .ok (.invokevirtual 140, 3) := by decide +kernel
theorem dX8_says_85 : decode cX8_says 85 = .ok (.ifCond .eq 12, 3) := by decide +kernel
theorem dX8_says_88 : decode cX8_says 88 = .ok (.aload 4, 2) := by decide +kernel
theorem dX8_says_90 : decode cX8_says 90 = .ok (.iload_n 2, 1) := by decide +kernel
theorem dX8_says_91 : decode cX8_says 91 = .ok (.invokevirtual 143, 3) := by decide +kernel
theorem dX8_says_94 : decode cX8_says 94 = .ok (.goto 8, 3) := by decide +kernel
theorem dX8_says_97 : decode cX8_says 97 = .ok (.aload_n 0, 1) := by decide +kernel
theorem dX8_says_98 : decode cX8_says 98 = .ok (.iconst 2, 1) := by decide +kernel
theorem dX8_says_99 : decode cX8_says 99 = .ok (.invokevirtual 77, 3) := by decide +kernel
theorem dX8_says_102 : decode cX8_says 102 = .ok (.ireturn, 1) := by decide +kernel
theorem dX8_arm_0 : decode cX8_arm 0 = .ok (.iload_n 1, 1) := by decide +kernel
theorem dX8_arm_1 : decode cX8_arm 1 = .ok (.iconst 0, 1) := by decide +kernel
theorem dX8_arm_2 : decode cX8_arm 2 = .ok (.bipush 6, 2) := by decide +kernel
theorem dX8_arm_4 : decode cX8_arm 4 = .ok (.invokestatic 81, 3) := by decide +kernel
theorem dX8_arm_7 : decode cX8_arm 7 = .ok (.ifCond .ne 9, 3) := by decide +kernel
theorem dX8_arm_10 : decode cX8_arm 10 = .ok (.aload_n 0, 1) := by decide +kernel
theorem dX8_arm_11 : decode cX8_arm 11 = .ok (.iconst 1, 1) := by decide +kernel
theorem dX8_arm_12 : decode cX8_arm 12 = .ok (.invokevirtual 77, 3) := by decide +kernel
theorem dX8_arm_15 : decode cX8_arm 15 = .ok (.ireturn, 1) := by decide +kernel
theorem dX8_arm_16 : decode cX8_arm 16 = .ok (.iload_n 2, 1) := by decide +kernel
theorem dX8_arm_17 : decode cX8_arm 17 = .ok (.invokestatic 146, 3) := by decide +kernel
theorem dX8_arm_20 : decode cX8_arm 20 = .ok (.ifCond .eq 34, 3) := by decide +kernel
theorem dX8_arm_23 : decode cX8_arm 23 = .ok (.iload_n 3, 1) := by decide +kernel
theorem dX8_arm_24 : decode cX8_arm 24 = .ok (.invokestatic 149, 3) := by decide +kernel
theorem dX8_arm_27 : decode cX8_arm 27 = .ok (.ifCond .eq 27, 3) := by decide +kernel
theorem dX8_arm_30 : decode cX8_arm 30 = .ok (.iload 4, 2) := by decide +kernel
theorem dX8_arm_32 : decode cX8_arm 32 = .ok (.invokestatic 146, 3) := by decide +kernel
theorem dX8_arm_35 : decode cX8_arm 35 = .ok (.ifCond .eq 19, 3) := by decide +kernel
theorem dX8_arm_38 : decode cX8_arm 38 = .ok (.iload 5, 2) := by decide +kernel
theorem dX8_arm_40 : decode cX8_arm 40 = .ok (.invokestatic 146, 3) := by decide +kernel
theorem dX8_arm_43 : decode cX8_arm 43 = .ok (.ifCond .eq 11, 3) := by decide +kernel
theorem dX8_arm_46 : decode cX8_arm 46 = .ok (.iload 6, 2) := by decide +kernel
theorem dX8_arm_48 : decode cX8_arm 48 = .ok (.invokestatic 146, 3) := by decide +kernel
theorem dX8_arm_51 : decode cX8_arm 51 = .ok (.ifCond .ne 10, 3) := by decide +kernel
theorem dX8_arm_54 : decode cX8_arm 54 = .ok (.aload_n 0, 1) := by decide +kernel
theorem dX8_arm_55 : decode cX8_arm 55 = .ok (.bipush 6, 2) := by decide +kernel
theorem dX8_arm_57 : decode cX8_arm 57 = .ok (.invokevirtual 77, 3) := by decide +kernel
theorem dX8_arm_60 : decode cX8_arm 60 = .ok (.ireturn, 1) := by decide +kernel
theorem dX8_arm_61 : decode cX8_arm 61 = .ok (.aload_n 0, 1) := by decide +kernel
theorem dX8_arm_62 : decode cX8_arm 62 = .ok (.getfield 10, 3) := by decide +kernel
theorem dX8_arm_65 : decode cX8_arm 65 = .ok (.invokevirtual 152, 3) := by decide +kernel
theorem dX8_arm_68 : decode cX8_arm 68 = .ok (.ifCond .ne 10, 3) := by decide +kernel
theorem dX8_arm_71 : decode cX8_arm 71 = .ok (.aload_n 0, 1) := by decide +kernel
theorem dX8_arm_72 : decode cX8_arm 72 = .ok (.bipush 7, 2) := by decide +kernel
theorem dX8_arm_74 : decode cX8_arm 74 = .ok (.invokevirtual 77, 3) := by decide +kernel
theorem dX8_arm_77 : decode cX8_arm 77 = .ok (.ireturn, 1) := by decide +kernel
theorem dX8_arm_78 : decode cX8_arm 78 = .ok (.aload_n 0, 1) := by decide +kernel
theorem dX8_arm_79 : decode cX8_arm 79 = .ok (.getfield 10, 3) := by decide +kernel
theorem dX8_arm_82 : decode cX8_arm 82 = .ok (.iload_n 1, 1) := by decide +kernel
theorem dX8_arm_83 : decode cX8_arm 83 = .ok (.iload_n 2, 1) := by decide +kernel
theorem dX8_arm_84 : decode cX8_arm 84 = .ok (.iload_n 3, 1) := by decide +kernel
theorem dX8_arm_85 : decode cX8_arm 85 = .ok (.iload 4, 2) := by decide +kernel
theorem dX8_arm_87 : decode cX8_arm 87 = .ok (.iload 5, 2) := by decide +kernel
theorem dX8_arm_89 : decode cX8_arm 89 = .ok (.iload 6, 2) := by decide +kernel
theorem dX8_arm_91 : decode cX8_arm 91 = .ok (.invokevirtual 155, 3) := by decide +kernel
theorem dX8_arm_94 : decode cX8_arm 94 = .ok (.ireturn, 1) := by decide +kernel
theorem dX8_doll_0 : decode cX8_doll 0 = .ok (.iload_n 1, 1) := by decide +kernel
theorem dX8_doll_1 : decode cX8_doll 1 = .ok (.invokestatic 146, 3) := by decide +kernel
theorem dX8_doll_4 : decode cX8_doll 4 = .ok (.ifCond .eq 57, 3) := by decide +kernel
theorem dX8_doll_7 : decode cX8_doll 7 = .ok (.iload_n 2, 1) := by decide +kernel
theorem dX8_doll_8 : decode cX8_doll 8 = .ok (.invokestatic 146, 3) := by decide +kernel
theorem dX8_doll_11 : decode cX8_doll 11 = .ok (.ifCond .eq 50, 3) := by decide +kernel
theorem dX8_doll_14 : decode cX8_doll 14 = .ok (.iload_n 3, 1) := by decide +kernel
theorem dX8_doll_15 : decode cX8_doll 15 = .ok (.invokestatic 146, 3) := by decide +kernel
theorem dX8_doll_18 : decode cX8_doll 18 = .ok (.ifCond .eq 43, 3) := by decide +kernel
theorem dX8_doll_21 : decode cX8_doll 21 = .ok (.iload 4, 2) := by decide +kernel
theorem dX8_doll_23 : decode cX8_doll 23 = .ok (.iconst 0, 1) := by decide +kernel
theorem dX8_doll_24 : decode cX8_doll 24 = .ok (.iconst 2, 1) := by decide +kernel
theorem dX8_doll_25 : decode cX8_doll 25 = .ok (.invokestatic 81, 3) := by decide +kernel
theorem dX8_doll_28 : decode cX8_doll 28 = .ok (.ifCond .eq 33, 3) := by decide +kernel
theorem dX8_doll_31 : decode cX8_doll 31 = .ok (.iload 5, 2) := by decide +kernel
theorem dX8_doll_33 : decode cX8_doll 33 = .ok (.iconst 1, 1) := by decide +kernel
theorem dX8_doll_34 : decode cX8_doll 34 = .ok (.bipush 99, 2) := by decide +kernel
theorem dX8_doll_36 : decode cX8_doll 36 = .ok (.invokestatic 81, 3) := by decide +kernel
theorem dX8_doll_39 : decode cX8_doll 39 = .ok (.ifCond .eq 22, 3) := by decide +kernel
theorem dX8_doll_42 : decode cX8_doll 42 = .ok (.iload 6, 2) := by decide +kernel
theorem dX8_doll_44 : decode cX8_doll 44 = .ok (.invokestatic 146, 3) := by decide +kernel
theorem dX8_doll_47 : decode cX8_doll 47 = .ok (.ifCond .eq 14, 3) := by decide +kernel
theorem dX8_doll_50 : decode cX8_doll 50 = .ok (.iload 7, 2) := by decide +kernel
theorem dX8_doll_52 : decode cX8_doll 52 = .ok (.iconst 0, 1) := by decide +kernel
theorem dX8_doll_53 : decode cX8_doll 53 = .ok (.bipush 40, 2) := by decide +kernel
theorem dX8_doll_55 : decode cX8_doll 55 = .ok (.invokestatic 81, 3) := by decide +kernel
theorem dX8_doll_58 : decode cX8_doll 58 = .ok (.ifCond .ne 10, 3) := by decide +kernel
theorem dX8_doll_61 : decode cX8_doll 61 = .ok (.aload_n 0, 1) := by decide +kernel
theorem dX8_doll_62 : decode cX8_doll 62 = .ok (.bipush 6, 2) := by decide +kernel
theorem dX8_doll_64 : decode cX8_doll 64 = .ok (.invokevirtual 77, 3) := by decide +kernel
theorem dX8_doll_67 : decode cX8_doll 67 = .ok (.ireturn, 1) := by decide +kernel
theorem dX8_doll_68 : decode cX8_doll 68 = .ok (.aload_n 0, 1) := by decide +kernel
theorem dX8_doll_69 : decode cX8_doll 69 = .ok (.getfield 10, 3) := by decide +kernel
theorem dX8_doll_72 : decode cX8_doll 72 = .ok (.invokevirtual 161, 3) := by decide +kernel
theorem dX8_doll_75 : decode cX8_doll 75 = .ok (.ifCond .ne 10, 3) := by decide +kernel
theorem dX8_doll_78 : decode cX8_doll 78 = .ok (.aload_n 0, 1) := by decide +kernel
theorem dX8_doll_79 : decode cX8_doll 79 = .ok (.bipush 7, 2) := by decide +kernel
theorem dX8_doll_81 : decode cX8_doll 81 = .ok (.invokevirtual 77, 3) := by decide +kernel
theorem dX8_doll_84 : decode cX8_doll 84 = .ok (.ireturn, 1) := by decide +kernel
theorem dX8_doll_85 : decode cX8_doll 85 = .ok (.aload_n 0, 1) := by decide +kernel
theorem dX8_doll_86 : decode cX8_doll 86 = .ok (.getfield 10, 3) := by decide +kernel
theorem dX8_doll_89 : decode cX8_doll 89 = .ok (.iload_n 1, 1) := by decide +kernel
theorem dX8_doll_90 : decode cX8_doll 90 = .ok (.iload_n 2, 1) := by decide +kernel
theorem dX8_doll_91 : decode cX8_doll 91 = .ok (.iload_n 3, 1) := by decide +kernel
theorem dX8_doll_92 : decode cX8_doll 92 = .ok (.iload 4, 2) := by decide +kernel
theorem dX8_doll_94 : decode cX8_doll 94 = .ok (.iload 5, 2) := by decide +kernel
theorem dX8_doll_96 : decode cX8_doll 96 = .ok (.iload 6, 2) := by decide +kernel
theorem dX8_doll_98 : decode cX8_doll 98 = .ok (.iload 7, 2) := by decide +kernel
theorem dX8_doll_100 : decode cX8_doll 100 = .ok (.invokevirtual 164, 3) := by decide +kernel
theorem dX8_doll_103 : decode cX8_doll 103 = .ok (.ireturn, 1) := by decide +kernel
theorem dX8_dye_0 : decode cX8_dye 0 = .ok (.aload_n 0, 1) := by decide +kernel
theorem dX8_dye_1 : decode cX8_dye 1 = .ok (.getfield 10, 3) := by decide +kernel
theorem dX8_dye_4 : decode cX8_dye 4 = .ok (.iload_n 1, 1) := by decide +kernel
theorem dX8_dye_5 : decode cX8_dye 5 = .ok (.invokevirtual 117, 3) := by decide +kernel
theorem dX8_dye_8 : decode cX8_dye 8 = .ok (.ifCond .ne 9, 3) := by decide +kernel
theorem dX8_dye_11 : decode cX8_dye 11 = .ok (.aload_n 0, 1) := by decide +kernel
theorem dX8_dye_12 : decode cX8_dye 12 = .ok (.iconst 1, 1) := by decide +kernel
theorem dX8_dye_13 : decode cX8_dye 13 = .ok (.invokevirtual 77, 3) := by decide +kernel
theorem dX8_dye_16 : decode cX8_dye 16 = .ok (.ireturn, 1) := by decide +kernel
theorem dX8_dye_17 : decode cX8_dye 17 = .ok (.iload_n 2, 1) := by decide +kernel
theorem dX8_dye_18 : decode cX8_dye 18 = .ok (.iconst 0, 1) := by decide +kernel
theorem dX8_dye_19 : decode cX8_dye 19 = .ok (.iconst 1, 1) := by decide +kernel
theorem dX8_dye_20 : decode cX8_dye 20 = .ok (.invokestatic 81, 3) := by decide +kernel
theorem dX8_dye_23 : decode cX8_dye 23 = .ok (.ifCond .eq 10, 3) := by decide +kernel
theorem dX8_dye_26 : decode cX8_dye 26 = .ok (.iload_n 3, 1) := by decide +kernel
theorem dX8_dye_27 : decode cX8_dye 27 = .ok (.invokestatic 146, 3) := by decide +kernel
theorem dX8_dye_30 : decode cX8_dye 30 = .ok (.ifCond .ne 10, 3) := by decide +kernel
theorem dX8_dye_33 : decode cX8_dye 33 = .ok (.aload_n 0, 1) := by decide +kernel
theorem dX8_dye_34 : decode cX8_dye 34 = .ok (.bipush 6, 2) := by decide +kernel
theorem dX8_dye_36 : decode cX8_dye 36 = .ok (.invokevirtual 77, 3) := by decide +kernel
theorem dX8_dye_39 : decode cX8_dye 39 = .ok (.ireturn, 1) := by decide +kernel
theorem dX8_dye_40 : decode cX8_dye 40 = .ok (.aload_n 0, 1) := by decide +kernel
theorem dX8_dye_41 : decode cX8_dye 41 = .ok (.getfield 10, 3) := by decide +kernel
theorem dX8_dye_44 : decode cX8_dye 44 = .ok (.getfield 62, 3) := by decide +kernel
theorem dX8_dye_47 : decode cX8_dye 47 = .ok (.iload_n 1, 1) := by decide +kernel
theorem dX8_dye_48 : decode cX8_dye 48 = .ok (.aaload, 1) := by decide +kernel
theorem dX8_dye_49 : decode cX8_dye 49 = .ok (.astore 4, 2) := by decide +kernel
theorem dX8_dye_51 : decode cX8_dye 51 = .ok (.iload_n 2, 1) := by decide +kernel
theorem dX8_dye_52 : decode cX8_dye 52 = .ok (.ifCond .ne 19, 3) := by decide +kernel
theorem dX8_dye_55 : decode cX8_dye 55 = .ok (.aload 4, 2) := by decide +kernel
theorem dX8_dye_57 : decode cX8_dye 57 = .ok (.getfield 168, 3) := by decide +kernel
theorem dX8_dye_60 : decode cX8_dye 60 = .ok (.istore 5, 2) := by decide +kernel
theorem dX8_dye_62 : decode cX8_dye 62 = .ok (.aload 4, 2) := by decide +kernel
theorem dX8_dye_64 : decode cX8_dye 64 = .ok (.iload_n 3, 1) := by decide +kernel
theorem dX8_dye_65 : decode cX8_dye 65 = .ok (.putfield 168, 3) := by decide +kernel
theorem dX8_dye_68 : decode cX8_dye 68 = .ok (.goto 16, 3) := by decide +kernel
theorem dX8_dye_71 : decode cX8_dye 71 = .ok (.aload 4, 2) := by decide +kernel
theorem dX8_dye_73 : decode cX8_dye 73 = .ok (.getfield 171, 3) := by decide +kernel
theorem dX8_dye_76 : decode cX8_dye 76 = .ok (.istore 5, 2) := by decide +kernel
theorem dX8_dye_78 : decode cX8_dye 78 = .ok (.aload 4, 2) := by decide +kernel
theorem dX8_dye_80 : decode cX8_dye 80 = .ok (.iload_n 3, 1) := by decide +kernel
theorem dX8_dye_81 : decode cX8_dye 81 = .ok (.putfield 171, 3) := by decide +kernel
theorem dX8_dye_84 : decode cX8_dye 84 = .ok (.iload 5, 2) := by decide +kernel
theorem dX8_dye_86 : decode cX8_dye 86 = .ok (.ireturn, 1) := by decide +kernel
theorem dX8_tell_0 : decode cX8_tell 0 = .ok (.aload_n 0, 1) := by decide +kernel
theorem dX8_tell_1 : decode cX8_tell 1 = .ok (.getfield 10, 3) := by decide +kernel
theorem dX8_tell_4 : decode cX8_tell 4 = .ok (.iload_n 1, 1) := by decide +kernel
theorem dX8_tell_5 : decode cX8_tell 5 = .ok (.invokevirtual 174, 3) := by decide +kernel
theorem dX8_tell_8 : decode cX8_tell 8 = .ok (.ifCond .ne 9, 3) := by decide +kernel
theorem dX8_tell_11 : decode cX8_tell 11 = .ok (.aload_n 0, 1) := by decide +kernel
theorem dX8_tell_12 : decode cX8_tell 12 = .ok (.iconst 1, 1) := by decide +kernel
theorem dX8_tell_13 : decode cX8_tell 13 = .ok (.invokevirtual 77, 3) := by decide +kernel
theorem dX8_tell_16 : decode cX8_tell 16 = .ok (.ireturn, 1) := by decide +kernel
theorem dX8_tell_17 : decode cX8_tell 17 = .ok (.iload_n 3, 1) := by decide +kernel
theorem dX8_tell_18 : decode cX8_tell 18 = .ok (.ifCond .lt 11, 3) := by decide +kernel
theorem dX8_tell_21 : decode cX8_tell 21 = .ok (.iload_n 3, 1) := by decide +kernel
theorem dX8_tell_22 : decode cX8_tell 22 = .ok (.iload_n 2, 1) := by decide +kernel
theorem dX8_tell_23 : decode cX8_tell 23 = .ok (.invokestatic 177, 3) := by decide +kernel
theorem dX8_tell_26 : decode cX8_tell 26 = .ok (.if_icmp .le 10, 3) := by decide +kernel
theorem dX8_tell_29 : decode cX8_tell 29 = .ok (.aload_n 0, 1) := by decide +kernel
theorem dX8_tell_30 : decode cX8_tell 30 = .ok (.bipush 6, 2) := by decide +kernel
theorem dX8_tell_32 : decode cX8_tell 32 = .ok (.invokevirtual 77, 3) := by decide +kernel
theorem dX8_tell_35 : decode cX8_tell 35 = .ok (.ireturn, 1) := by decide +kernel
theorem dX8_tell_36 : decode cX8_tell 36 = .ok (.aload_n 0, 1) := by decide +kernel
theorem dX8_tell_37 : decode cX8_tell 37 = .ok (.getfield 10, 3) := by decide +kernel
theorem dX8_tell_40 : decode cX8_tell 40 = .ok (.getfield 180, 3) := by decide +kernel
theorem dX8_tell_43 : decode cX8_tell 43 = .ok (.iload_n 1, 1) := by decide +kernel
theorem dX8_tell_44 : decode cX8_tell 44 = .ok (.aaload, 1) := by decide +kernel
theorem dX8_tell_45 : decode cX8_tell 45 = .ok (.iload_n 2, 1) := by decide +kernel
theorem dX8_tell_46 : decode cX8_tell 46 = .ok (.iload_n 3, 1) := by decide +kernel
theorem dX8_tell_47 : decode cX8_tell 47 = .ok (.invokevirtual 184, 3) := by decide +kernel
theorem dX8_tell_50 : decode cX8_tell 50 = .ok (.ireturn, 1) := by decide +kernel
theorem dX8_armOf_0 : decode cX8_armOf 0 = .ok (.aload_n 0, 1) := by decide +kernel
theorem dX8_armOf_1 : decode cX8_armOf 1 = .ok (.getfield 10, 3) := by decide +kernel
theorem dX8_armOf_4 : decode cX8_armOf 4 = .ok (.iload_n 1, 1) := by decide +kernel
theorem dX8_armOf_5 : decode cX8_armOf 5 = .ok (.invokevirtual 117, 3) := by decide +kernel
theorem dX8_armOf_8 : decode cX8_armOf 8 = .ok (.ifCond .eq 13, 3) := by decide +kernel
theorem dX8_armOf_11 : decode cX8_armOf 11 = .ok (.iload_n 2, 1) := by decide +kernel
theorem dX8_armOf_12 : decode cX8_armOf 12 = .ok (.iconst 0, 1) := by decide +kernel
theorem dX8_armOf_13 : decode cX8_armOf 13 = .ok (.bipush 8, 2) := by decide +kernel
theorem dX8_armOf_15 : decode cX8_armOf 15 = .ok (.invokestatic 81, 3) := by decide +kernel
theorem dX8_armOf_18 : decode cX8_armOf 18 = .ok (.ifCond .ne 9, 3) := by decide +kernel
theorem dX8_armOf_21 : decode cX8_armOf 21 = .ok (.aload_n 0, 1) := by decide +kernel
theorem dX8_armOf_22 : decode cX8_armOf 22 = .ok (.iconst 5, 1) := by decide +kernel
theorem dX8_armOf_23 : decode cX8_armOf 23 = .ok (.invokevirtual 77, 3) := by decide +kernel
theorem dX8_armOf_26 : decode cX8_armOf 26 = .ok (.ireturn, 1) := by decide +kernel
theorem dX8_armOf_27 : decode cX8_armOf 27 = .ok (.aload_n 0, 1) := by decide +kernel
theorem dX8_armOf_28 : decode cX8_armOf 28 = .ok (.getfield 10, 3) := by decide +kernel
theorem dX8_armOf_31 : decode cX8_armOf 31 = .ok (.getfield 62, 3) := by decide +kernel
theorem dX8_armOf_34 : decode cX8_armOf 34 = .ok (.iload_n 1, 1) := by decide +kernel
theorem dX8_armOf_35 : decode cX8_armOf 35 = .ok (.aaload, 1) := by decide +kernel
theorem dX8_armOf_36 : decode cX8_armOf 36 = .ok (.iload_n 2, 1) := by decide +kernel
theorem dX8_armOf_37 : decode cX8_armOf 37 = .ok (.invokevirtual 187, 3) := by decide +kernel
theorem dX8_armOf_40 : decode cX8_armOf 40 = .ok (.ireturn, 1) := by decide +kernel
theorem dX8_dollOf_0 : decode cX8_dollOf 0 = .ok (.aload_n 0, 1) := by decide +kernel
theorem dX8_dollOf_1 : decode cX8_dollOf 1 = .ok (.getfield 10, 3) := by decide +kernel
theorem dX8_dollOf_4 : decode cX8_dollOf 4 = .ok (.iload_n 1, 1) := by decide +kernel
theorem dX8_dollOf_5 : decode cX8_dollOf 5 = .ok (.invokevirtual 174, 3) := by decide +kernel
theorem dX8_dollOf_8 : decode cX8_dollOf 8 = .ok (.ifCond .eq 13, 3) := by decide +kernel
theorem dX8_dollOf_11 : decode cX8_dollOf 11 = .ok (.iload_n 2, 1) := by decide +kernel
theorem dX8_dollOf_12 : decode cX8_dollOf 12 = .ok (.iconst 0, 1) := by decide +kernel
theorem dX8_dollOf_13 : decode cX8_dollOf 13 = .ok (.bipush 8, 2) := by decide +kernel
theorem dX8_dollOf_15 : decode cX8_dollOf 15 = .ok (.invokestatic 81, 3) := by decide +kernel
theorem dX8_dollOf_18 : decode cX8_dollOf 18 = .ok (.ifCond .ne 9, 3) := by decide +kernel
theorem dX8_dollOf_21 : decode cX8_dollOf 21 = .ok (.aload_n 0, 1) := by decide +kernel
theorem dX8_dollOf_22 : decode cX8_dollOf 22 = .ok (.iconst 5, 1) := by decide +kernel
theorem dX8_dollOf_23 : decode cX8_dollOf 23 = .ok (.invokevirtual 77, 3) := by decide +kernel
theorem dX8_dollOf_26 : decode cX8_dollOf 26 = .ok (.ireturn, 1) := by decide +kernel
theorem dX8_dollOf_27 : decode cX8_dollOf 27 = .ok (.iload_n 2, 1) := by decide +kernel
theorem dX8_dollOf_28 : decode cX8_dollOf 28 = .ok (.bipush 8, 2) := by decide +kernel
theorem dX8_dollOf_30 : decode cX8_dollOf 30 = .ok (.if_icmp .ne 20, 3) := by decide +kernel
theorem dX8_dollOf_33 : decode cX8_dollOf 33 = .ok (.aload_n 0, 1) := by decide +kernel
theorem dX8_dollOf_34 : decode cX8_dollOf 34 = .ok (.getfield 10, 3) := by decide +kernel
theorem dX8_dollOf_37 : decode cX8_dollOf 37 = .ok (.iload_n 1, 1) := by decide +kernel
theorem dX8_dollOf_38 : decode cX8_dollOf 38 = .ok (.invokevirtual 190, 3) := by decide +kernel
theorem dX8_dollOf_41 : decode cX8_dollOf 41 = .ok (.ifCond .eq 7, 3) := by decide +kernel
theorem dX8_dollOf_44 : decode cX8_dollOf 44 = .ok (.iconst 1, 1) := by decide +kernel
theorem dX8_dollOf_45 : decode cX8_dollOf 45 = .ok (.goto 4, 3) := by decide +kernel
theorem dX8_dollOf_48 : decode cX8_dollOf 48 = .ok (.iconst 0, 1) := by decide +kernel
theorem dX8_dollOf_49 : decode cX8_dollOf 49 = .ok (.ireturn, 1) := by decide +kernel
theorem dX8_dollOf_50 : decode cX8_dollOf 50 = .ok (.aload_n 0, 1) := by decide +kernel
theorem dX8_dollOf_51 : decode cX8_dollOf 51 = .ok (.getfield 10, 3) := by decide +kernel
theorem dX8_dollOf_54 : decode cX8_dollOf 54 = .ok (.getfield 180, 3) := by decide +kernel
theorem dX8_dollOf_57 : decode cX8_dollOf 57 = .ok (.iload_n 1, 1) := by decide +kernel
theorem dX8_dollOf_58 : decode cX8_dollOf 58 = .ok (.aaload, 1) := by decide +kernel
theorem dX8_dollOf_59 : decode cX8_dollOf 59 = .ok (.iload_n 2, 1) := by decide +kernel
theorem dX8_dollOf_60 : decode cX8_dollOf 60 = .ok (.invokevirtual 193, 3) := by decide +kernel
theorem dX8_dollOf_63 : decode cX8_dollOf 63 = .ok (.ireturn, 1) := by decide +kernel
theorem dX8_on_0 : decode cX8_on 0 = .ok (.aload_n 0, 1) := by decide +kernel
theorem dX8_on_1 : decode cX8_on 1 = .ok (.iload_n 1, 1) := by decide +kernel
theorem dX8_on_2 : decode cX8_on 2 = .ok (.iload_n 2, 1) := by decide +kernel
theorem dX8_on_3 : decode cX8_on 3 = .ok (.invokevirtual 194, 3) := by decide +kernel
theorem dX8_on_6 : decode cX8_on 6 = .ok (.istore_n 3, 1) := by decide +kernel
theorem dX8_on_7 : decode cX8_on 7 = .ok (.iload_n 3, 1) := by decide +kernel
theorem dX8_on_8 : decode cX8_on 8 = .ok (.ifCond .eq 11, 3) := by decide +kernel
theorem dX8_on_11 : decode cX8_on 11 = .ok (.aload_n 0, 1) := by decide +kernel
theorem dX8_on_12 : decode cX8_on 12 = .ok (.iload_n 3, 1) := by decide +kernel
theorem dX8_on_13 : decode cX8_on 13 = .ok (.invokevirtual 197, 3) := by decide +kernel
theorem dX8_on_16 : decode cX8_on 16 = .ok (.goto 12, 3) := by decide +kernel
theorem dX8_on_19 : decode cX8_on 19 = .ok (.aload_n 0, 1) := by decide +kernel
theorem dX8_on_20 : decode cX8_on 20 = .ok (.getfield 10, 3) := by decide +kernel
theorem dX8_on_23 : decode cX8_on 23 = .ok (.iload_n 1, 1) := by decide +kernel
theorem dX8_on_24 : decode cX8_on 24 = .ok (.iload_n 2, 1) := by decide +kernel
theorem dX8_on_25 : decode cX8_on 25 = .ok (.invokevirtual 200, 3) := by decide +kernel
theorem dX8_on_28 : decode cX8_on 28 = .ok (.ireturn, 1) := by decide +kernel
theorem dX8_shop_0 : decode cX8_shop 0 = .ok (.aload_n 0, 1) := by decide +kernel
theorem dX8_shop_1 : decode cX8_shop 1 = .ok (.iload_n 1, 1) := by decide +kernel
theorem dX8_shop_2 : decode cX8_shop 2 = .ok (.invokevirtual 89, 3) := by decide +kernel
theorem dX8_shop_5 : decode cX8_shop 5 = .ok (.istore_n 2, 1) := by decide +kernel
theorem dX8_shop_6 : decode cX8_shop 6 = .ok (.iload_n 2, 1) := by decide +kernel
theorem dX8_shop_7 : decode cX8_shop 7 = .ok (.ifCond .eq 9, 3) := by decide +kernel
theorem dX8_shop_10 : decode cX8_shop 10 = .ok (.aload_n 0, 1) := by decide +kernel
theorem dX8_shop_11 : decode cX8_shop 11 = .ok (.iload_n 2, 1) := by decide +kernel
theorem dX8_shop_12 : decode cX8_shop 12 = .ok (.invokevirtual 77, 3) := by decide +kernel
theorem dX8_shop_15 : decode cX8_shop 15 = .ok (.ireturn, 1) := by decide +kernel
theorem dX8_shop_16 : decode cX8_shop 16 = .ok (.aload_n 0, 1) := by decide +kernel
theorem dX8_shop_17 : decode cX8_shop 17 = .ok (.getfield 19, 3) := by decide +kernel
theorem dX8_shop_20 : decode cX8_shop 20 = .ok (.aload_n 0, 1) := by decide +kernel
theorem dX8_shop_21 : decode cX8_shop 21 = .ok (.getfield 10, 3) := by decide +kernel
theorem dX8_shop_24 : decode cX8_shop 24 = .ok (.invokevirtual 203, 3) := by decide +kernel
theorem dX8_shop_27 : decode cX8_shop 27 = .ok (.aload_n 0, 1) := by decide +kernel
theorem dX8_shop_28 : decode cX8_shop 28 = .ok (.getfield 56, 3) := by decide +kernel
theorem dX8_shop_31 : decode cX8_shop 31 = .ok (.aload_n 0, 1) := by decide +kernel
theorem dX8_shop_32 : decode cX8_shop 32 = .ok (.getfield 28, 3) := by decide +kernel
theorem dX8_shop_35 : decode cX8_shop 35 = .ok (.iload_n 1, 1) := by decide +kernel
theorem dX8_shop_36 : decode cX8_shop 36 = .ok (.aaload, 1) := by decide +kernel
theorem dX8_shop_37 : decode cX8_shop 37 = .ok (.invokevirtual 207, 3) := by decide +kernel
theorem dX8_shop_40 : decode cX8_shop 40 = .ok (.istore_n 3, 1) := by decide +kernel
theorem dX8_shop_41 : decode cX8_shop 41 = .ok (.iload_n 3, 1) := by decide +kernel
theorem dX8_shop_42 : decode cX8_shop 42 = .ok (.iconst (-1), 1) := by decide +kernel
theorem dX8_shop_43 : decode cX8_shop 43 = .ok (.if_icmp .ne 10, 3) := by decide +kernel
theorem dX8_shop_46 : decode cX8_shop 46 = .ok (.aload_n 0, 1) := by decide +kernel
theorem dX8_shop_47 : decode cX8_shop 47 = .ok (.bipush 6, 2) := by decide +kernel
theorem dX8_shop_49 : decode cX8_shop 49 = .ok (.invokevirtual 77, 3) := by decide +kernel
theorem dX8_shop_52 : decode cX8_shop 52 = .ok (.ireturn, 1) := by decide +kernel
theorem dX8_shop_53 : decode cX8_shop 53 = .ok (.aload_n 0, 1) := by decide +kernel
theorem dX8_shop_54 : decode cX8_shop 54 = .ok (.getfield 10, 3) := by decide +kernel
theorem dX8_shop_57 : decode cX8_shop 57 = .ok (.aload_n 0, 1) := by decide +kernel
theorem dX8_shop_58 : decode cX8_shop 58 = .ok (.getfield 19, 3) := by decide +kernel
theorem dX8_shop_61 : decode cX8_shop 61 = .ok (.invokevirtual 203, 3) := by decide +kernel
theorem dX8_shop_64 : decode cX8_shop 64 = .ok (.iload_n 3, 1) := by decide +kernel
theorem dX8_shop_65 : decode cX8_shop 65 = .ok (.ireturn, 1) := by decide +kernel
theorem dX8_fault_0 : decode cX8_fault 0 = .ok (.aload_n 0, 1) := by decide +kernel
theorem dX8_fault_1 : decode cX8_fault 1 = .ok (.getfield 56, 3) := by decide +kernel
theorem dX8_fault_4 : decode cX8_fault 4 = .ok (.getfield 211, 3) := by decide +kernel
theorem dX8_fault_7 : decode cX8_fault 7 = .ok (.ireturn, 1) := by decide +kernel
theorem dX8_fits_0 : decode cX8_fits 0 = .ok (.aload_n 0, 1) := by decide +kernel
theorem dX8_fits_1 : decode cX8_fits 1 = .ok (.getfield 10, 3) := by decide +kernel
theorem dX8_fits_4 : decode cX8_fits 4 = .ok (.iload_n 1, 1) := by decide +kernel
theorem dX8_fits_5 : decode cX8_fits 5 = .ok (.invokevirtual 117, 3) := by decide +kernel
theorem dX8_fits_8 : decode cX8_fits 8 = .ok (.ifCond .eq 14, 3) := by decide +kernel
theorem dX8_fits_11 : decode cX8_fits 11 = .ok (.aload_n 0, 1) := by decide +kernel
theorem dX8_fits_12 : decode cX8_fits 12 = .ok (.getfield 10, 3) := by decide +kernel
theorem dX8_fits_15 : decode cX8_fits 15 = .ok (.iload_n 2, 1) := by decide +kernel
theorem dX8_fits_16 : decode cX8_fits 16 = .ok (.invokevirtual 174, 3) := by decide +kernel
theorem dX8_fits_19 : decode cX8_fits 19 = .ok (.ifCond .ne 9, 3) := by decide +kernel
theorem dX8_fits_22 : decode cX8_fits 22 = .ok (.aload_n 0, 1) := by decide +kernel
theorem dX8_fits_23 : decode cX8_fits 23 = .ok (.iconst 1, 1) := by decide +kernel
theorem dX8_fits_24 : decode cX8_fits 24 = .ok (.invokevirtual 77, 3) := by decide +kernel
theorem dX8_fits_27 : decode cX8_fits 27 = .ok (.ireturn, 1) := by decide +kernel
theorem dX8_fits_28 : decode cX8_fits 28 = .ok (.iload_n 3, 1) := by decide +kernel
theorem dX8_fits_29 : decode cX8_fits 29 = .ok (.invokestatic 149, 3) := by decide +kernel
theorem dX8_fits_32 : decode cX8_fits 32 = .ok (.ifCond .ne 10, 3) := by decide +kernel
theorem dX8_fits_35 : decode cX8_fits 35 = .ok (.aload_n 0, 1) := by decide +kernel
theorem dX8_fits_36 : decode cX8_fits 36 = .ok (.bipush 6, 2) := by decide +kernel
theorem dX8_fits_38 : decode cX8_fits 38 = .ok (.invokevirtual 77, 3) := by decide +kernel
theorem dX8_fits_41 : decode cX8_fits 41 = .ok (.ireturn, 1) := by decide +kernel
theorem dX8_fits_42 : decode cX8_fits 42 = .ok (.aload_n 0, 1) := by decide +kernel
theorem dX8_fits_43 : decode cX8_fits 43 = .ok (.getfield 10, 3) := by decide +kernel
theorem dX8_fits_46 : decode cX8_fits 46 = .ok (.getfield 62, 3) := by decide +kernel
theorem dX8_fits_49 : decode cX8_fits 49 = .ok (.iload_n 1, 1) := by decide +kernel
theorem dX8_fits_50 : decode cX8_fits 50 = .ok (.aaload, 1) := by decide +kernel
theorem dX8_fits_51 : decode cX8_fits 51 = .ok (.aload_n 0, 1) := by decide +kernel
theorem dX8_fits_52 : decode cX8_fits 52 = .ok (.getfield 10, 3) := by decide +kernel
theorem dX8_fits_55 : decode cX8_fits 55 = .ok (.getfield 180, 3) := by decide +kernel
theorem dX8_fits_58 : decode cX8_fits 58 = .ok (.iload_n 2, 1) := by decide +kernel
theorem dX8_fits_59 : decode cX8_fits 59 = .ok (.aaload, 1) := by decide +kernel
theorem dX8_fits_60 : decode cX8_fits 60 = .ok (.iload_n 3, 1) := by decide +kernel
theorem dX8_fits_61 : decode cX8_fits 61 = .ok (.invokevirtual 214, 3) := by decide +kernel
theorem dX8_fits_64 : decode cX8_fits 64 = .ok (.ifCond .eq 7, 3) := by decide +kernel
theorem dX8_fits_67 : decode cX8_fits 67 = .ok (.iconst 1, 1) := by decide +kernel
theorem dX8_fits_68 : decode cX8_fits 68 = .ok (.goto 4, 3) := by decide +kernel
theorem dX8_fits_71 : decode cX8_fits 71 = .ok (.iconst 0, 1) := by decide +kernel
theorem dX8_fits_72 : decode cX8_fits 72 = .ok (.ireturn, 1) := by decide +kernel
theorem dX8_unlike_0 : decode cX8_unlike 0 = .ok (.aload_n 0, 1) := by decide +kernel
theorem dX8_unlike_1 : decode cX8_unlike 1 = .ok (.getfield 10, 3) := by decide +kernel
theorem dX8_unlike_4 : decode cX8_unlike 4 = .ok (.iload_n 1, 1) := by decide +kernel
theorem dX8_unlike_5 : decode cX8_unlike 5 = .ok (.invokevirtual 117, 3) := by decide +kernel
theorem dX8_unlike_8 : decode cX8_unlike 8 = .ok (.ifCond .eq 14, 3) := by decide +kernel
theorem dX8_unlike_11 : decode cX8_unlike 11 = .ok (.aload_n 0, 1) := by decide +kernel
theorem dX8_unlike_12 : decode cX8_unlike 12 = .ok (.getfield 10, 3) := by decide +kernel
theorem dX8_unlike_15 : decode cX8_unlike 15 = .ok (.iload_n 2, 1) := by decide +kernel
theorem dX8_unlike_16 : decode cX8_unlike 16 = .ok (.invokevirtual 174, 3) := by decide +kernel
theorem dX8_unlike_19 : decode cX8_unlike 19 = .ok (.ifCond .ne 9, 3) := by decide +kernel
theorem dX8_unlike_22 : decode cX8_unlike 22 = .ok (.aload_n 0, 1) := by decide +kernel
theorem dX8_unlike_23 : decode cX8_unlike 23 = .ok (.iconst 1, 1) := by decide +kernel
theorem dX8_unlike_24 : decode cX8_unlike 24 = .ok (.invokevirtual 77, 3) := by decide +kernel
theorem dX8_unlike_27 : decode cX8_unlike 27 = .ok (.ireturn, 1) := by decide +kernel
theorem dX8_unlike_28 : decode cX8_unlike 28 = .ok (.aload_n 0, 1) := by decide +kernel
theorem dX8_unlike_29 : decode cX8_unlike 29 = .ok (.getfield 10, 3) := by decide +kernel
theorem dX8_unlike_32 : decode cX8_unlike 32 = .ok (.getfield 62, 3) := by decide +kernel
theorem dX8_unlike_35 : decode cX8_unlike 35 = .ok (.iload_n 1, 1) := by decide +kernel
theorem dX8_unlike_36 : decode cX8_unlike 36 = .ok (.aaload, 1) := by decide +kernel
theorem dX8_unlike_37 : decode cX8_unlike 37 = .ok (.aload_n 0, 1) := by decide +kernel
theorem dX8_unlike_38 : decode cX8_unlike 38 = .ok (.getfield 10, 3) := by decide +kernel
theorem dX8_unlike_41 : decode cX8_unlike 41 = .ok (.getfield 180, 3) := by decide +kernel
theorem dX8_unlike_44 : decode cX8_unlike 44 = .ok (.iload_n 2, 1) := by decide +kernel
theorem dX8_unlike_45 : decode cX8_unlike 45 = .ok (.aaload, 1) := by decide +kernel
theorem dX8_unlike_46 : decode cX8_unlike 46 = .ok (.invokevirtual 218, 3) := by decide +kernel
theorem dX8_unlike_49 : decode cX8_unlike 49 = .ok (.ireturn, 1) := by decide +kernel
theorem dX8_may_0 : decode cX8_may 0 = .ok (.aload_n 0, 1) := by decide +kernel
theorem dX8_may_1 : decode cX8_may 1 = .ok (.iload_n 1, 1) := by decide +kernel
theorem dX8_may_2 : decode cX8_may 2 = .ok (.iload_n 2, 1) := by decide +kernel
theorem dX8_may_3 : decode cX8_may 3 = .ok (.invokevirtual 194, 3) := by decide +kernel
theorem dX8_may_6 : decode cX8_may 6 = .ok (.istore_n 3, 1) := by decide +kernel
theorem dX8_may_7 : decode cX8_may 7 = .ok (.iload_n 3, 1) := by decide +kernel
theorem dX8_may_8 : decode cX8_may 8 = .ok (.ifCond .eq 11, 3) := by decide +kernel
theorem dX8_may_11 : decode cX8_may 11 = .ok (.aload_n 0, 1) := by decide +kernel
theorem dX8_may_12 : decode cX8_may 12 = .ok (.iload_n 3, 1) := by decide +kernel
theorem dX8_may_13 : decode cX8_may 13 = .ok (.invokevirtual 77, 3) := by decide +kernel
theorem dX8_may_16 : decode cX8_may 16 = .ok (.goto 12, 3) := by decide +kernel
theorem dX8_may_19 : decode cX8_may 19 = .ok (.aload_n 0, 1) := by decide +kernel
theorem dX8_may_20 : decode cX8_may 20 = .ok (.getfield 10, 3) := by decide +kernel
theorem dX8_may_23 : decode cX8_may 23 = .ok (.iload_n 1, 1) := by decide +kernel
theorem dX8_may_24 : decode cX8_may 24 = .ok (.iload_n 2, 1) := by decide +kernel
theorem dX8_may_25 : decode cX8_may 25 = .ok (.invokevirtual 222, 3) := by decide +kernel
theorem dX8_may_28 : decode cX8_may 28 = .ok (.ireturn, 1) := by decide +kernel
theorem dX8_best_0 : decode cX8_best 0 = .ok (.aload_n 0, 1) := by decide +kernel
theorem dX8_best_1 : decode cX8_best 1 = .ok (.iload_n 1, 1) := by decide +kernel
theorem dX8_best_2 : decode cX8_best 2 = .ok (.iload_n 2, 1) := by decide +kernel
theorem dX8_best_3 : decode cX8_best 3 = .ok (.invokevirtual 194, 3) := by decide +kernel
theorem dX8_best_6 : decode cX8_best 6 = .ok (.istore_n 3, 1) := by decide +kernel
theorem dX8_best_7 : decode cX8_best 7 = .ok (.iload_n 3, 1) := by decide +kernel
theorem dX8_best_8 : decode cX8_best 8 = .ok (.ifCond .eq 11, 3) := by decide +kernel
theorem dX8_best_11 : decode cX8_best 11 = .ok (.aload_n 0, 1) := by decide +kernel
theorem dX8_best_12 : decode cX8_best 12 = .ok (.iload_n 3, 1) := by decide +kernel
theorem dX8_best_13 : decode cX8_best 13 = .ok (.invokevirtual 197, 3) := by decide +kernel
theorem dX8_best_16 : decode cX8_best 16 = .ok (.goto 20, 3) := by decide +kernel
theorem dX8_best_19 : decode cX8_best 19 = .ok (.aload_n 0, 1) := by decide +kernel
theorem dX8_best_20 : decode cX8_best 20 = .ok (.getfield 10, 3) := by decide +kernel
theorem dX8_best_23 : decode cX8_best 23 = .ok (.aload_n 0, 1) := by decide +kernel
theorem dX8_best_24 : decode cX8_best 24 = .ok (.getfield 10, 3) := by decide +kernel
theorem dX8_best_27 : decode cX8_best 27 = .ok (.iload_n 1, 1) := by decide +kernel
theorem dX8_best_28 : decode cX8_best 28 = .ok (.iload_n 2, 1) := by decide +kernel
theorem dX8_best_29 : decode cX8_best 29 = .ok (.invokevirtual 222, 3) := by decide +kernel
theorem dX8_best_32 : decode cX8_best 32 = .ok (.iload_n 1, 1) := by decide +kernel
theorem dX8_best_33 : decode cX8_best 33 = .ok (.invokevirtual 225, 3) := by decide +kernel
theorem dX8_best_36 : decode cX8_best 36 = .ok (.ireturn, 1) := by decide +kernel
theorem dX8_whole_0 : decode cX8_whole 0 = .ok (.iload_n 1, 1) := by decide +kernel
theorem dX8_whole_1 : decode cX8_whole 1 = .ok (.iconst 0, 1) := by decide +kernel
theorem dX8_whole_2 : decode cX8_whole 2 = .ok (.iconst 1, 1) := by decide +kernel
theorem dX8_whole_3 : decode cX8_whole 3 = .ok (.invokestatic 81, 3) := by decide +kernel
theorem dX8_whole_6 : decode cX8_whole 6 = .ok (.ifCond .ne 9, 3) := by decide +kernel
theorem dX8_whole_9 : decode cX8_whole 9 = .ok (.aload_n 0, 1) := by decide +kernel
theorem dX8_whole_10 : decode cX8_whole 10 = .ok (.iconst 5, 1) := by decide +kernel
theorem dX8_whole_11 : decode cX8_whole 11 = .ok (.invokevirtual 77, 3) := by decide +kernel
theorem dX8_whole_14 : decode cX8_whole 14 = .ok (.ireturn, 1) := by decide +kernel
theorem dX8_whole_15 : decode cX8_whole 15 = .ok (.aload_n 0, 1) := by decide +kernel
theorem dX8_whole_16 : decode cX8_whole 16 = .ok (.getfield 39, 3) := by decide +kernel
theorem dX8_whole_19 : decode cX8_whole 19 = .ok (.aload_n 0, 1) := by decide +kernel
theorem dX8_whole_20 : decode cX8_whole 20 = .ok (.getfield 10, 3) := by decide +kernel
theorem dX8_whole_23 : decode cX8_whole 23 = .ok (.invokevirtual 228, 3) := by decide +kernel
theorem dX8_whole_26 : decode cX8_whole 26 = .ok (.iload_n 1, 1) := by decide +kernel
theorem dX8_whole_27 : decode cX8_whole 27 = .ok (.ifCond .ne 13, 3) := by decide +kernel
theorem dX8_whole_30 : decode cX8_whole 30 = .ok (.aload_n 0, 1) := by decide +kernel
theorem dX8_whole_31 : decode cX8_whole 31 = .ok (.getfield 39, 3) := by decide +kernel
theorem dX8_whole_34 : decode cX8_whole 34 = .ok (.invokevirtual 231, 3) := by decide +kernel
theorem dX8_whole_37 : decode cX8_whole 37 = .ok (.goto 10, 3) := by decide +kernel
theorem dX8_whole_40 : decode cX8_whole 40 = .ok (.aload_n 0, 1) := by decide +kernel
theorem dX8_whole_41 : decode cX8_whole 41 = .ok (.getfield 39, 3) := by decide +kernel
theorem dX8_whole_44 : decode cX8_whole 44 = .ok (.invokevirtual 235, 3) := by decide +kernel
theorem dX8_whole_47 : decode cX8_whole 47 = .ok (.ireturn, 1) := by decide +kernel
theorem dX8_given_0 : decode cX8_given 0 = .ok (.iload_n 1, 1) := by decide +kernel
theorem dX8_given_1 : decode cX8_given 1 = .ok (.ifCond .lt 16, 3) := by decide +kernel
theorem dX8_given_4 : decode cX8_given 4 = .ok (.iload_n 1, 1) := by decide +kernel
theorem dX8_given_5 : decode cX8_given 5 = .ok (.iconst 2, 1) := by decide +kernel
theorem dX8_given_6 : decode cX8_given 6 = .ok (.aload_n 0, 1) := by decide +kernel
theorem dX8_given_7 : decode cX8_given 7 = .ok (.getfield 10, 3) := by decide +kernel
theorem dX8_given_10 : decode cX8_given 10 = .ok (.getfield 238, 3) := by decide +kernel
theorem dX8_given_13 : decode cX8_given 13 = .ok (.imul, 1) := by decide +kernel
theorem dX8_given_14 : decode cX8_given 14 = .ok (.if_icmp .lt 9, 3) := by decide +kernel
theorem dX8_given_17 : decode cX8_given 17 = .ok (.aload_n 0, 1) := by decide +kernel
theorem dX8_given_18 : decode cX8_given 18 = .ok (.iconst 5, 1) := by decide +kernel
theorem dX8_given_19 : decode cX8_given 19 = .ok (.invokevirtual 197, 3) := by decide +kernel
theorem dX8_given_22 : decode cX8_given 22 = .ok (.ireturn, 1) := by decide +kernel
theorem dX8_given_23 : decode cX8_given 23 = .ok (.aload_n 0, 1) := by decide +kernel
theorem dX8_given_24 : decode cX8_given 24 = .ok (.getfield 39, 3) := by decide +kernel
theorem dX8_given_27 : decode cX8_given 27 = .ok (.aload_n 0, 1) := by decide +kernel
theorem dX8_given_28 : decode cX8_given 28 = .ok (.getfield 10, 3) := by decide +kernel
theorem dX8_given_31 : decode cX8_given 31 = .ok (.invokevirtual 228, 3) := by decide +kernel
theorem dX8_given_34 : decode cX8_given 34 = .ok (.aload_n 0, 1) := by decide +kernel
theorem dX8_given_35 : decode cX8_given 35 = .ok (.getfield 39, 3) := by decide +kernel
theorem dX8_given_38 : decode cX8_given 38 = .ok (.iload_n 1, 1) := by decide +kernel
theorem dX8_given_39 : decode cX8_given 39 = .ok (.iconst 2, 1) := by decide +kernel
theorem dX8_given_40 : decode cX8_given 40 = .ok (.idiv, 1) := by decide +kernel
theorem dX8_given_41 : decode cX8_given 41 = .ok (.iload_n 1, 1) := by decide +kernel
theorem dX8_given_42 : decode cX8_given 42 = .ok (.iconst 2, 1) := by decide +kernel
theorem dX8_given_43 : decode cX8_given 43 = .ok (.irem, 1) := by decide +kernel
theorem dX8_given_44 : decode cX8_given 44 = .ok (.invokevirtual 241, 3) := by decide +kernel
theorem dX8_given_47 : decode cX8_given 47 = .ok (.ireturn, 1) := by decide +kernel
theorem dX8_cast_0 : decode cX8_cast 0 = .ok (.aload_n 0, 1) := by decide +kernel
theorem dX8_cast_1 : decode cX8_cast 1 = .ok (.getfield 39, 3) := by decide +kernel
theorem dX8_cast_4 : decode cX8_cast 4 = .ok (.aload_n 0, 1) := by decide +kernel
theorem dX8_cast_5 : decode cX8_cast 5 = .ok (.getfield 10, 3) := by decide +kernel
theorem dX8_cast_8 : decode cX8_cast 8 = .ok (.invokevirtual 228, 3) := by decide +kernel
theorem dX8_cast_11 : decode cX8_cast 11 = .ok (.aload_n 0, 1) := by decide +kernel
theorem dX8_cast_12 : decode cX8_cast 12 = .ok (.getfield 39, 3) := by decide +kernel
theorem dX8_cast_15 : decode cX8_cast 15 = .ok (.aload_n 0, 1) := by decide +kernel
theorem dX8_cast_16 : decode cX8_cast 16 = .ok (.getfield 10, 3) := by decide +kernel
theorem dX8_cast_19 : decode cX8_cast 19 = .ok (.invokevirtual 244, 3) := by decide +kernel
theorem dX8_cast_22 : decode cX8_cast 22 = .ok (.ireturn, 1) := by decide +kernel
theorem dX8_tea_0 : decode cX8_tea 0 = .ok (.aload_n 0, 1) := by decide +kernel
theorem dX8_tea_1 : decode cX8_tea 1 = .ok (.getfield 10, 3) := by decide +kernel
theorem dX8_tea_4 : decode cX8_tea 4 = .ok (.iload_n 1, 1) := by decide +kernel
theorem dX8_tea_5 : decode cX8_tea 5 = .ok (.invokevirtual 117, 3) := by decide +kernel
theorem dX8_tea_8 : decode cX8_tea 8 = .ok (.ifCond .eq 14, 3) := by decide +kernel
theorem dX8_tea_11 : decode cX8_tea 11 = .ok (.aload_n 0, 1) := by decide +kernel
theorem dX8_tea_12 : decode cX8_tea 12 = .ok (.getfield 10, 3) := by decide +kernel
theorem dX8_tea_15 : decode cX8_tea 15 = .ok (.iload_n 2, 1) := by decide +kernel
theorem dX8_tea_16 : decode cX8_tea 16 = .ok (.invokevirtual 174, 3) := by decide +kernel
theorem dX8_tea_19 : decode cX8_tea 19 = .ok (.ifCond .ne 9, 3) := by decide +kernel
theorem dX8_tea_22 : decode cX8_tea 22 = .ok (.aload_n 0, 1) := by decide +kernel
theorem dX8_tea_23 : decode cX8_tea 23 = .ok (.iconst 1, 1) := by decide +kernel
theorem dX8_tea_24 : decode cX8_tea 24 = .ok (.invokevirtual 77, 3) := by decide +kernel
theorem dX8_tea_27 : decode cX8_tea 27 = .ok (.ireturn, 1) := by decide +kernel
theorem dX8_tea_28 : decode cX8_tea 28 = .ok (.aload_n 0, 1) := by decide +kernel
theorem dX8_tea_29 : decode cX8_tea 29 = .ok (.getfield 10, 3) := by decide +kernel
theorem dX8_tea_32 : decode cX8_tea 32 = .ok (.getfield 62, 3) := by decide +kernel
theorem dX8_tea_35 : decode cX8_tea 35 = .ok (.iload_n 1, 1) := by decide +kernel
theorem dX8_tea_36 : decode cX8_tea 36 = .ok (.aaload, 1) := by decide +kernel
theorem dX8_tea_37 : decode cX8_tea 37 = .ok (.aload_n 0, 1) := by decide +kernel
theorem dX8_tea_38 : decode cX8_tea 38 = .ok (.getfield 10, 3) := by decide +kernel
theorem dX8_tea_41 : decode cX8_tea 41 = .ok (.getfield 180, 3) := by decide +kernel
theorem dX8_tea_44 : decode cX8_tea 44 = .ok (.iload_n 2, 1) := by decide +kernel
theorem dX8_tea_45 : decode cX8_tea 45 = .ok (.aaload, 1) := by decide +kernel
theorem dX8_tea_46 : decode cX8_tea 46 = .ok (.invokevirtual 248, 3) := by decide +kernel
theorem dX8_tea_49 : decode cX8_tea 49 = .ok (.ireturn, 1) := by decide +kernel
theorem dX8_comes_0 : decode cX8_comes 0 = .ok (.aload_n 0, 1) := by decide +kernel
theorem dX8_comes_1 : decode cX8_comes 1 = .ok (.getfield 10, 3) := by decide +kernel
theorem dX8_comes_4 : decode cX8_comes 4 = .ok (.iload_n 1, 1) := by decide +kernel
theorem dX8_comes_5 : decode cX8_comes 5 = .ok (.invokevirtual 174, 3) := by decide +kernel
theorem dX8_comes_8 : decode cX8_comes 8 = .ok (.ifCond .ne 9, 3) := by decide +kernel
theorem dX8_comes_11 : decode cX8_comes 11 = .ok (.aload_n 0, 1) := by decide +kernel
theorem dX8_comes_12 : decode cX8_comes 12 = .ok (.iconst 1, 1) := by decide +kernel
theorem dX8_comes_13 : decode cX8_comes 13 = .ok (.invokevirtual 77, 3) := by decide +kernel
theorem dX8_comes_16 : decode cX8_comes 16 = .ok (.ireturn, 1) := by decide +kernel
theorem dX8_comes_17 : decode cX8_comes 17 = .ok (.iload_n 2, 1) := by decide +kernel
theorem dX8_comes_18 : decode cX8_comes 18 = .ok (.iconst 0, 1) := by decide +kernel
theorem dX8_comes_19 : decode cX8_comes 19 = .ok (.bipush 99, 2) := by decide +kernel
theorem dX8_comes_21 : decode cX8_comes 21 = .ok (.invokestatic 81, 3) := by decide +kernel
theorem dX8_comes_24 : decode cX8_comes 24 = .ok (.ifCond .ne 10, 3) := by decide +kernel
theorem dX8_comes_27 : decode cX8_comes 27 = .ok (.aload_n 0, 1) := by decide +kernel
theorem dX8_comes_28 : decode cX8_comes 28 = .ok (.bipush 6, 2) := by decide +kernel
theorem dX8_comes_30 : decode cX8_comes 30 = .ok (.invokevirtual 77, 3) := by decide +kernel
theorem dX8_comes_33 : decode cX8_comes 33 = .ok (.ireturn, 1) := by decide +kernel
theorem dX8_comes_34 : decode cX8_comes 34 = .ok (.sipush 1000, 3) := by decide +kernel
theorem dX8_comes_37 : decode cX8_comes 37 = .ok (.iload_n 2, 1) := by decide +kernel
theorem dX8_comes_38 : decode cX8_comes 38 = .ok (.imul, 1) := by decide +kernel
theorem dX8_comes_39 : decode cX8_comes 39 = .ok (.aload_n 0, 1) := by decide +kernel
theorem dX8_comes_40 : decode cX8_comes 40 = .ok (.getfield 10, 3) := by decide +kernel
theorem dX8_comes_43 : decode cX8_comes 43 = .ok (.getfield 180, 3) := by decide +kernel
theorem dX8_comes_46 : decode cX8_comes 46 = .ok (.iload_n 1, 1) := by decide +kernel
theorem dX8_comes_47 : decode cX8_comes 47 = .ok (.aaload, 1) := by decide +kernel
theorem dX8_comes_48 : decode cX8_comes 48 = .ok (.getfield 251, 3) := by decide +kernel
theorem dX8_comes_51 : decode cX8_comes 51 = .ok (.iload_n 2, 1) := by decide +kernel
theorem dX8_comes_52 : decode cX8_comes 52 = .ok (.iadd, 1) := by decide +kernel
theorem dX8_comes_53 : decode cX8_comes 53 = .ok (.iconst 1, 1) := by decide +kernel
theorem dX8_comes_54 : decode cX8_comes 54 = .ok (.iadd, 1) := by decide +kernel
theorem dX8_comes_55 : decode cX8_comes 55 = .ok (.idiv, 1) := by decide +kernel
theorem dX8_comes_56 : decode cX8_comes 56 = .ok (.ireturn, 1) := by decide +kernel
theorem dX8_queue_0 : decode cX8_queue 0 = .ok (.iload_n 1, 1) := by decide +kernel
theorem dX8_queue_1 : decode cX8_queue 1 = .ok (.iconst (-1), 1) := by decide +kernel
theorem dX8_queue_2 : decode cX8_queue 2 = .ok (.if_icmp .eq 20, 3) := by decide +kernel
theorem dX8_queue_5 : decode cX8_queue 5 = .ok (.aload_n 0, 1) := by decide +kernel
theorem dX8_queue_6 : decode cX8_queue 6 = .ok (.getfield 10, 3) := by decide +kernel
theorem dX8_queue_9 : decode cX8_queue 9 = .ok (.iload_n 1, 1) := by decide +kernel
theorem dX8_queue_10 : decode cX8_queue 10 = .ok (.invokevirtual 174, 3) := by decide +kernel
theorem dX8_queue_13 : decode cX8_queue 13 = .ok (.ifCond .ne 9, 3) := by decide +kernel
theorem dX8_queue_16 : decode cX8_queue 16 = .ok (.aload_n 0, 1) := by decide +kernel
theorem dX8_queue_17 : decode cX8_queue 17 = .ok (.iconst 5, 1) := by decide +kernel
theorem dX8_queue_18 : decode cX8_queue 18 = .ok (.invokevirtual 77, 3) := by decide +kernel
theorem dX8_queue_21 : decode cX8_queue 21 = .ok (.ireturn, 1) := by decide +kernel
theorem dX8_queue_22 : decode cX8_queue 22 = .ok (.aload_n 0, 1) := by decide +kernel
theorem dX8_queue_23 : decode cX8_queue 23 = .ok (.getfield 46, 3) := by decide +kernel
theorem dX8_queue_26 : decode cX8_queue 26 = .ok (.aload_n 0, 1) := by decide +kernel
theorem dX8_queue_27 : decode cX8_queue 27 = .ok (.getfield 10, 3) := by decide +kernel
theorem dX8_queue_30 : decode cX8_queue 30 = .ok (.invokevirtual 254, 3) := by decide +kernel
theorem dX8_queue_33 : decode cX8_queue 33 = .ok (.iload_n 1, 1) := by decide +kernel
theorem dX8_queue_34 : decode cX8_queue 34 = .ok (.iconst (-1), 1) := by decide +kernel
theorem dX8_queue_35 : decode cX8_queue 35 = .ok (.if_icmp .ne 13, 3) := by decide +kernel
theorem dX8_queue_38 : decode cX8_queue 38 = .ok (.aload_n 0, 1) := by decide +kernel
theorem dX8_queue_39 : decode cX8_queue 39 = .ok (.getfield 46, 3) := by decide +kernel
theorem dX8_queue_42 : decode cX8_queue 42 = .ok (.invokevirtual 255, 3) := by decide +kernel
theorem dX8_queue_45 : decode cX8_queue 45 = .ok (.goto 15, 3) := by decide +kernel
theorem dX8_queue_48 : decode cX8_queue 48 = .ok (.aload_n 0, 1) := by decide +kernel
theorem dX8_queue_49 : decode cX8_queue 49 = .ok (.getfield 46, 3) := by decide +kernel
theorem dX8_queue_52 : decode cX8_queue 52 = .ok (.aload_n 0, 1) := by decide +kernel
theorem dX8_queue_53 : decode cX8_queue 53 = .ok (.getfield 10, 3) := by decide +kernel
theorem dX8_queue_56 : decode cX8_queue 56 = .ok (.iload_n 1, 1) := by decide +kernel
theorem dX8_queue_57 : decode cX8_queue 57 = .ok (.invokevirtual 258, 3) := by decide +kernel
theorem dX8_queue_60 : decode cX8_queue 60 = .ok (.ireturn, 1) := by decide +kernel
theorem dX8_feast_0 : decode cX8_feast 0 = .ok (.iload_n 2, 1) := by decide +kernel
theorem dX8_feast_1 : decode cX8_feast 1 = .ok (.iconst 0, 1) := by decide +kernel
theorem dX8_feast_2 : decode cX8_feast 2 = .ok (.iconst 1, 1) := by decide +kernel
theorem dX8_feast_3 : decode cX8_feast 3 = .ok (.invokestatic 81, 3) := by decide +kernel
theorem dX8_feast_6 : decode cX8_feast 6 = .ok (.ifCond .ne 9, 3) := by decide +kernel
theorem dX8_feast_9 : decode cX8_feast 9 = .ok (.aload_n 0, 1) := by decide +kernel
theorem dX8_feast_10 : decode cX8_feast 10 = .ok (.iconst 5, 1) := by decide +kernel
theorem dX8_feast_11 : decode cX8_feast 11 = .ok (.invokevirtual 77, 3) := by decide +kernel
theorem dX8_feast_14 : decode cX8_feast 14 = .ok (.ireturn, 1) := by decide +kernel
theorem dX8_feast_15 : decode cX8_feast 15 = .ok (.iload_n 1, 1) := by decide +kernel
theorem dX8_feast_16 : decode cX8_feast 16 = .ok (.iconst 0, 1) := by decide +kernel
theorem dX8_feast_17 : decode cX8_feast 17 = .ok (.sipush 400, 3) := by decide +kernel
theorem dX8_feast_20 : decode cX8_feast 20 = .ok (.invokestatic 81, 3) := by decide +kernel
theorem dX8_feast_23 : decode cX8_feast 23 = .ok (.ifCond .ne 10, 3) := by decide +kernel
theorem dX8_feast_26 : decode cX8_feast 26 = .ok (.aload_n 0, 1) := by decide +kernel
theorem dX8_feast_27 : decode cX8_feast 27 = .ok (.bipush 6, 2) := by decide +kernel
theorem dX8_feast_29 : decode cX8_feast 29 = .ok (.invokevirtual 77, 3) := by decide +kernel
theorem dX8_feast_32 : decode cX8_feast 32 = .ok (.ireturn, 1) := by decide +kernel
theorem dX8_feast_33 : decode cX8_feast 33 = .ok (.aload_n 0, 1) := by decide +kernel
theorem dX8_feast_34 : decode cX8_feast 34 = .ok (.getfield 46, 3) := by decide +kernel
theorem dX8_feast_37 : decode cX8_feast 37 = .ok (.aload_n 0, 1) := by decide +kernel
theorem dX8_feast_38 : decode cX8_feast 38 = .ok (.getfield 10, 3) := by decide +kernel
theorem dX8_feast_41 : decode cX8_feast 41 = .ok (.iload_n 1, 1) := by decide +kernel
theorem dX8_feast_42 : decode cX8_feast 42 = .ok (.invokevirtual 262, 3) := by decide +kernel
theorem dX8_feast_45 : decode cX8_feast 45 = .ok (.istore_n 3, 1) := by decide +kernel
theorem dX8_feast_46 : decode cX8_feast 46 = .ok (.iload_n 2, 1) := by decide +kernel
theorem dX8_feast_47 : decode cX8_feast 47 = .ok (.ifCond .ne 7, 3) := by decide +kernel
theorem dX8_feast_50 : decode cX8_feast 50 = .ok (.iload_n 3, 1) := by decide +kernel
theorem dX8_feast_51 : decode cX8_feast 51 = .ok (.goto 15, 3) := by decide +kernel
theorem dX8_feast_54 : decode cX8_feast 54 = .ok (.aload_n 0, 1) := by decide +kernel
theorem dX8_feast_55 : decode cX8_feast 55 = .ok (.getfield 46, 3) := by decide +kernel
theorem dX8_feast_58 : decode cX8_feast 58 = .ok (.aload_n 0, 1) := by decide +kernel
theorem dX8_feast_59 : decode cX8_feast 59 = .ok (.getfield 10, 3) := by decide +kernel
theorem dX8_feast_62 : decode cX8_feast 62 = .ok (.iload_n 3, 1) := by decide +kernel
theorem dX8_feast_63 : decode cX8_feast 63 = .ok (.invokevirtual 265, 3) := by decide +kernel
theorem dX8_feast_66 : decode cX8_feast 66 = .ok (.ireturn, 1) := by decide +kernel
theorem dX8_looks_0 : decode cX8_looks 0 = .ok (.iload_n 1, 1) := by decide +kernel
theorem dX8_looks_1 : decode cX8_looks 1 = .ok (.invokestatic 73, 3) := by decide +kernel
theorem dX8_looks_4 : decode cX8_looks 4 = .ok (.ifCond .eq 14, 3) := by decide +kernel
theorem dX8_looks_7 : decode cX8_looks 7 = .ok (.aload_n 0, 1) := by decide +kernel
theorem dX8_looks_8 : decode cX8_looks 8 = .ok (.getfield 10, 3) := by decide +kernel
theorem dX8_looks_11 : decode cX8_looks 11 = .ok (.iload_n 2, 1) := by decide +kernel
theorem dX8_looks_12 : decode cX8_looks 12 = .ok (.invokevirtual 117, 3) := by decide +kernel
theorem dX8_looks_15 : decode cX8_looks 15 = .ok (.ifCond .ne 9, 3) := by decide +kernel
theorem dX8_looks_18 : decode cX8_looks 18 = .ok (.aload_n 0, 1) := by decide +kernel
theorem dX8_looks_19 : decode cX8_looks 19 = .ok (.iconst 1, 1) := by decide +kernel
theorem dX8_looks_20 : decode cX8_looks 20 = .ok (.invokevirtual 77, 3) := by decide +kernel
theorem dX8_looks_23 : decode cX8_looks 23 = .ok (.ireturn, 1) := by decide +kernel
theorem dX8_looks_24 : decode cX8_looks 24 = .ok (.aload_n 0, 1) := by decide +kernel
theorem dX8_looks_25 : decode cX8_looks 25 = .ok (.iload_n 1, 1) := by decide +kernel
theorem dX8_looks_26 : decode cX8_looks 26 = .ok (.invokevirtual 89, 3) := by decide +kernel
theorem dX8_looks_29 : decode cX8_looks 29 = .ok (.istore 4, 2) := by decide +kernel
theorem dX8_looks_31 : decode cX8_looks 31 = .ok (.iload 4, 2) := by decide +kernel
theorem dX8_looks_33 : decode cX8_looks 33 = .ok (.ifCond .eq 10, 3) := by decide +kernel
theorem dX8_looks_36 : decode cX8_looks 36 = .ok (.aload_n 0, 1) := by decide +kernel
theorem dX8_looks_37 : decode cX8_looks 37 = .ok (.iload 4, 2) := by decide +kernel
theorem dX8_looks_39 : decode cX8_looks 39 = .ok (.invokevirtual 77, 3) := by decide +kernel
theorem dX8_looks_42 : decode cX8_looks 42 = .ok (.ireturn, 1) := by decide +kernel
theorem dX8_looks_43 : decode cX8_looks 43 = .ok (.aload_n 0, 1) := by decide +kernel
