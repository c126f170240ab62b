theorem dX9_queues_117 : decode cX9_queues 117 = .ok (.iload 4, 2) := by decide +kernel
theorem dX9_queues_119 : decode cX9_queues 119 = .ok (.aload_n 0, 1) := by decide +kernel
theorem dX9_queues_120 : decode cX9_queues 120 = .ok (.getfield 56, 3) := by decide +kernel
theorem dX9_queues_123 : decode cX9_queues 123 = .ok (.iload 5, 2) := by decide +kernel
theorem dX9_queues_125 : decode cX9_queues 125 = .ok (.iaload, 1) := by decide +kernel
theorem dX9_queues_126 : decode cX9_queues 126 = .ok (.iload_n 3, 1) := by decide +kernel
theorem dX9_queues_127 : decode cX9_queues 127 = .ok (.aload_n 0, 1) := by decide +kernel
theorem dX9_queues_128 : decode cX9_queues 128 = .ok (.getfield 53, 3) := by decide +kernel
theorem dX9_queues_131 : decode cX9_queues 131 = .ok (.iload 5, 2) := by decide +kernel
theorem dX9_queues_133 : decode cX9_queues 133 = .ok (.iaload, 1) := by decide +kernel
theorem dX9_queues_134 : decode cX9_queues 134 = .ok (.iadd, 1) := by decide +kernel
theorem dX9_queues_135 : decode cX9_queues 135 = .ok (.imul, 1) := by decide +kernel
theorem dX9_queues_136 : decode cX9_queues 136 = .ok (.iadd, 1) := by decide +kernel
theorem dX9_queues_137 : decode cX9_queues 137 = .ok (.invokevirtual 269, 3) := by decide +kernel
theorem dX9_queues_140 : decode cX9_queues 140 = .ok (.iinc 5 1, 3) := by decide +kernel
theorem dX9_queues_143 : decode cX9_queues 143 = .ok (.goto (-75), 3) := by decide +kernel
theorem dX9_queues_146 : decode cX9_queues 146 = .ok (.return_, 1) := by decide +kernel
theorem dX9_queue_0 : decode cX9_queue 0 = .ok (.aload_n 0, 1) := by decide +kernel
theorem dX9_queue_1 : decode cX9_queue 1 = .ok (.iload_n 1, 1) := by decide +kernel
theorem dX9_queue_2 : decode cX9_queue 2 = .ok (.iconst (-1), 1) := by decide +kernel
theorem dX9_queue_3 : decode cX9_queue 3 = .ok (.aload_n 0, 1) := by decide +kernel
theorem dX9_queue_4 : decode cX9_queue 4 = .ok (.getfield 129, 3) := by decide +kernel
theorem dX9_queue_7 : decode cX9_queue 7 = .ok (.iconst 1, 1) := by decide +kernel
theorem dX9_queue_8 : decode cX9_queue 8 = .ok (.isub, 1) := by decide +kernel
theorem dX9_queue_9 : decode cX9_queue 9 = .ok (.invokevirtual 172, 3) := by decide +kernel
theorem dX9_queue_12 : decode cX9_queue 12 = .ok (.ifCond .ne 10, 3) := by decide +kernel
theorem dX9_queue_15 : decode cX9_queue 15 = .ok (.aload_n 0, 1) := by decide +kernel
theorem dX9_queue_16 : decode cX9_queue 16 = .ok (.bipush (-5), 2) := by decide +kernel
theorem dX9_queue_18 : decode cX9_queue 18 = .ok (.invokevirtual 136, 3) := by decide +kernel
theorem dX9_queue_21 : decode cX9_queue 21 = .ok (.ireturn, 1) := by decide +kernel
theorem dX9_queue_22 : decode cX9_queue 22 = .ok (.aload_n 0, 1) := by decide +kernel
theorem dX9_queue_23 : decode cX9_queue 23 = .ok (.iconst (-1), 1) := by decide +kernel
theorem dX9_queue_24 : decode cX9_queue 24 = .ok (.putfield 266, 3) := by decide +kernel
theorem dX9_queue_27 : decode cX9_queue 27 = .ok (.aload_n 0, 1) := by decide +kernel
theorem dX9_queue_28 : decode cX9_queue 28 = .ok (.iconst 0, 1) := by decide +kernel
theorem dX9_queue_29 : decode cX9_queue 29 = .ok (.iconst 0, 1) := by decide +kernel
theorem dX9_queue_30 : decode cX9_queue 30 = .ok (.iconst 0, 1) := by decide +kernel
theorem dX9_queue_31 : decode cX9_queue 31 = .ok (.iconst 0, 1) := by decide +kernel
theorem dX9_queue_32 : decode cX9_queue 32 = .ok (.invokevirtual 269, 3) := by decide +kernel
theorem dX9_queue_35 : decode cX9_queue 35 = .ok (.iload_n 1, 1) := by decide +kernel
theorem dX9_queue_36 : decode cX9_queue 36 = .ok (.iconst (-1), 1) := by decide +kernel
theorem dX9_queue_37 : decode cX9_queue 37 = .ok (.if_icmp .ne 10, 3) := by decide +kernel
theorem dX9_queue_40 : decode cX9_queue 40 = .ok (.aload_n 0, 1) := by decide +kernel
theorem dX9_queue_41 : decode cX9_queue 41 = .ok (.getfield 266, 3) := by decide +kernel
theorem dX9_queue_44 : decode cX9_queue 44 = .ok (.goto 9, 3) := by decide +kernel
theorem dX9_queue_47 : decode cX9_queue 47 = .ok (.aload_n 0, 1) := by decide +kernel
theorem dX9_queue_48 : decode cX9_queue 48 = .ok (.getfield 120, 3) := by decide +kernel
theorem dX9_queue_51 : decode cX9_queue 51 = .ok (.iload_n 1, 1) := by decide +kernel
theorem dX9_queue_52 : decode cX9_queue 52 = .ok (.iaload, 1) := by decide +kernel
theorem dX9_queue_53 : decode cX9_queue 53 = .ok (.ireturn, 1) := by decide +kernel
theorem dX9_sumOf_0 : decode cX9_sumOf 0 = .ok (.iconst 0, 1) := by decide +kernel
theorem dX9_sumOf_1 : decode cX9_sumOf 1 = .ok (.istore_n 3, 1) := by decide +kernel
theorem dX9_sumOf_2 : decode cX9_sumOf 2 = .ok (.iconst 0, 1) := by decide +kernel
theorem dX9_sumOf_3 : decode cX9_sumOf 3 = .ok (.istore 4, 2) := by decide +kernel
theorem dX9_sumOf_5 : decode cX9_sumOf 5 = .ok (.iload 4, 2) := by decide +kernel
theorem dX9_sumOf_7 : decode cX9_sumOf 7 = .ok (.aload_n 0, 1) := by decide +kernel
theorem dX9_sumOf_8 : decode cX9_sumOf 8 = .ok (.getfield 129, 3) := by decide +kernel
theorem dX9_sumOf_11 : decode cX9_sumOf 11 = .ok (.if_icmp .ge 26, 3) := by decide +kernel
theorem dX9_sumOf_14 : decode cX9_sumOf 14 = .ok (.iload_n 1, 1) := by decide +kernel
theorem dX9_sumOf_15 : decode cX9_sumOf 15 = .ok (.iload 4, 2) := by decide +kernel
theorem dX9_sumOf_17 : decode cX9_sumOf 17 = .ok (.ishr, 1) := by decide +kernel
theorem dX9_sumOf_18 : decode cX9_sumOf 18 = .ok (.iconst 1, 1) := by decide +kernel
theorem dX9_sumOf_19 : decode cX9_sumOf 19 = .ok (.iand, 1) := by decide +kernel
theorem dX9_sumOf_20 : decode cX9_sumOf 20 = .ok (.iconst 1, 1) := by decide +kernel
theorem dX9_sumOf_21 : decode cX9_sumOf 21 = .ok (.if_icmp .ne 10, 3) := by decide +kernel
theorem dX9_sumOf_24 : decode cX9_sumOf 24 = .ok (.iload_n 3, 1) := by decide +kernel
theorem dX9_sumOf_25 : decode cX9_sumOf 25 = .ok (.aload_n 2, 1) := by decide +kernel
theorem dX9_sumOf_26 : decode cX9_sumOf 26 = .ok (.iload 4, 2) := by decide +kernel
theorem dX9_sumOf_28 : decode cX9_sumOf 28 = .ok (.iaload, 1) := by decide +kernel
theorem dX9_sumOf_29 : decode cX9_sumOf 29 = .ok (.iadd, 1) := by decide +kernel
theorem dX9_sumOf_30 : decode cX9_sumOf 30 = .ok (.istore_n 3, 1) := by decide +kernel
theorem dX9_sumOf_31 : decode cX9_sumOf 31 = .ok (.iinc 4 1, 3) := by decide +kernel
theorem dX9_sumOf_34 : decode cX9_sumOf 34 = .ok (.goto (-29), 3) := by decide +kernel
theorem dX9_sumOf_37 : decode cX9_sumOf 37 = .ok (.iload_n 3, 1) := by decide +kernel
theorem dX9_sumOf_38 : decode cX9_sumOf 38 = .ok (.ireturn, 1) := by decide +kernel
theorem dX9_feast_0 : decode cX9_feast 0 = .ok (.iload_n 2, 1) := by decide +kernel
theorem dX9_feast_1 : decode cX9_feast 1 = .ok (.ifCond .lt 8, 3) := by decide +kernel
theorem dX9_feast_4 : decode cX9_feast 4 = .ok (.iload_n 2, 1) := by decide +kernel
theorem dX9_feast_5 : decode cX9_feast 5 = .ok (.iconst 1, 1) := by decide +kernel
theorem dX9_feast_6 : decode cX9_feast 6 = .ok (.if_icmp .le 10, 3) := by decide +kernel
theorem dX9_feast_9 : decode cX9_feast 9 = .ok (.aload_n 0, 1) := by decide +kernel
theorem dX9_feast_10 : decode cX9_feast 10 = .ok (.bipush (-5), 2) := by decide +kernel
theorem dX9_feast_12 : decode cX9_feast 12 = .ok (.invokevirtual 136, 3) := by decide +kernel
theorem dX9_feast_15 : decode cX9_feast 15 = .ok (.ireturn, 1) := by decide +kernel
theorem dX9_feast_16 : decode cX9_feast 16 = .ok (.aload_n 0, 1) := by decide +kernel
theorem dX9_feast_17 : decode cX9_feast 17 = .ok (.iload_n 1, 1) := by decide +kernel
theorem dX9_feast_18 : decode cX9_feast 18 = .ok (.iconst 0, 1) := by decide +kernel
theorem dX9_feast_19 : decode cX9_feast 19 = .ok (.sipush 400, 3) := by decide +kernel
theorem dX9_feast_22 : decode cX9_feast 22 = .ok (.invokevirtual 172, 3) := by decide +kernel
theorem dX9_feast_25 : decode cX9_feast 25 = .ok (.ifCond .ne 10, 3) := by decide +kernel
theorem dX9_feast_28 : decode cX9_feast 28 = .ok (.aload_n 0, 1) := by decide +kernel
theorem dX9_feast_29 : decode cX9_feast 29 = .ok (.bipush (-6), 2) := by decide +kernel
theorem dX9_feast_31 : decode cX9_feast 31 = .ok (.invokevirtual 136, 3) := by decide +kernel
theorem dX9_feast_34 : decode cX9_feast 34 = .ok (.ireturn, 1) := by decide +kernel
theorem dX9_feast_35 : decode cX9_feast 35 = .ok (.iconst 0, 1) := by decide +kernel
theorem dX9_feast_36 : decode cX9_feast 36 = .ok (.istore_n 3, 1) := by decide +kernel
theorem dX9_feast_37 : decode cX9_feast 37 = .ok (.iconst 1, 1) := by decide +kernel
theorem dX9_feast_38 : decode cX9_feast 38 = .ok (.istore 4, 2) := by decide +kernel
theorem dX9_feast_40 : decode cX9_feast 40 = .ok (.iload 4, 2) := by decide +kernel
theorem dX9_feast_42 : decode cX9_feast 42 = .ok (.iconst 1, 1) := by decide +kernel
theorem dX9_feast_43 : decode cX9_feast 43 = .ok (.aload_n 0, 1) := by decide +kernel
theorem dX9_feast_44 : decode cX9_feast 44 = .ok (.getfield 129, 3) := by decide +kernel
theorem dX9_feast_47 : decode cX9_feast 47 = .ok (.ishl, 1) := by decide +kernel
theorem dX9_feast_48 : decode cX9_feast 48 = .ok (.if_icmp .ge 48, 3) := by decide +kernel
theorem dX9_feast_51 : decode cX9_feast 51 = .ok (.aload_n 0, 1) := by decide +kernel
theorem dX9_feast_52 : decode cX9_feast 52 = .ok (.iload 4, 2) := by decide +kernel
theorem dX9_feast_54 : decode cX9_feast 54 = .ok (.aload_n 0, 1) := by decide +kernel
theorem dX9_feast_55 : decode cX9_feast 55 = .ok (.getfield 53, 3) := by decide +kernel
theorem dX9_feast_58 : decode cX9_feast 58 = .ok (.invokevirtual 273, 3) := by decide +kernel
theorem dX9_feast_61 : decode cX9_feast 61 = .ok (.iload_n 1, 1) := by decide +kernel
theorem dX9_feast_62 : decode cX9_feast 62 = .ok (.if_icmp .gt 28, 3) := by decide +kernel
theorem dX9_feast_65 : decode cX9_feast 65 = .ok (.aload_n 0, 1) := by decide +kernel
theorem dX9_feast_66 : decode cX9_feast 66 = .ok (.iload 4, 2) := by decide +kernel
theorem dX9_feast_68 : decode cX9_feast 68 = .ok (.aload_n 0, 1) := by decide +kernel
theorem dX9_feast_69 : decode cX9_feast 69 = .ok (.getfield 56, 3) := by decide +kernel
theorem dX9_feast_72 : decode cX9_feast 72 = .ok (.invokevirtual 273, 3) := by decide +kernel
theorem dX9_feast_75 : decode cX9_feast 75 = .ok (.aload_n 0, 1) := by decide +kernel
theorem dX9_feast_76 : decode cX9_feast 76 = .ok (.iload_n 3, 1) := by decide +kernel
theorem dX9_feast_77 : decode cX9_feast 77 = .ok (.aload_n 0, 1) := by decide +kernel
theorem dX9_feast_78 : decode cX9_feast 78 = .ok (.getfield 56, 3) := by decide +kernel
theorem dX9_feast_81 : decode cX9_feast 81 = .ok (.invokevirtual 273, 3) := by decide +kernel
theorem dX9_feast_84 : decode cX9_feast 84 = .ok (.if_icmp .le 6, 3) := by decide +kernel
theorem dX9_feast_87 : decode cX9_feast 87 = .ok (.iload 4, 2) := by decide +kernel
theorem dX9_feast_89 : decode cX9_feast 89 = .ok (.istore_n 3, 1) := by decide +kernel
theorem dX9_feast_90 : decode cX9_feast 90 = .ok (.iinc 4 1, 3) := by decide +kernel
theorem dX9_feast_93 : decode cX9_feast 93 = .ok (.goto (-53), 3) := by decide +kernel
theorem dX9_feast_96 : decode cX9_feast 96 = .ok (.iload_n 2, 1) := by decide +kernel
theorem dX9_feast_97 : decode cX9_feast 97 = .ok (.ifCond .ne 7, 3) := by decide +kernel
theorem dX9_feast_100 : decode cX9_feast 100 = .ok (.iload_n 3, 1) := by decide +kernel
theorem dX9_feast_101 : decode cX9_feast 101 = .ok (.goto 12, 3) := by decide +kernel
theorem dX9_feast_104 : decode cX9_feast 104 = .ok (.aload_n 0, 1) := by decide +kernel
theorem dX9_feast_105 : decode cX9_feast 105 = .ok (.iload_n 3, 1) := by decide +kernel
theorem dX9_feast_106 : decode cX9_feast 106 = .ok (.aload_n 0, 1) := by decide +kernel
theorem dX9_feast_107 : decode cX9_feast 107 = .ok (.getfield 56, 3) := by decide +kernel
theorem dX9_feast_110 : decode cX9_feast 110 = .ok (.invokevirtual 273, 3) := by decide +kernel
theorem dX9_feast_113 : decode cX9_feast 113 = .ok (.ireturn, 1) := by decide +kernel
theorem dX9_looks_0 : decode cX9_looks 0 = .ok (.aload_n 0, 1) := by decide +kernel
theorem dX9_looks_1 : decode cX9_looks 1 = .ok (.iload_n 2, 1) := by decide +kernel
theorem dX9_looks_2 : decode cX9_looks 2 = .ok (.invokevirtual 140, 3) := by decide +kernel
theorem dX9_looks_5 : decode cX9_looks 5 = .ok (.ifCond .eq 11, 3) := by decide +kernel
theorem dX9_looks_8 : decode cX9_looks 8 = .ok (.aload_n 0, 1) := by decide +kernel
theorem dX9_looks_9 : decode cX9_looks 9 = .ok (.iload_n 1, 1) := by decide +kernel
theorem dX9_looks_10 : decode cX9_looks 10 = .ok (.invokevirtual 244, 3) := by decide +kernel
theorem dX9_looks_13 : decode cX9_looks 13 = .ok (.goto 4, 3) := by decide +kernel
theorem dX9_looks_16 : decode cX9_looks 16 = .ok (.iconst (-1), 1) := by decide +kernel
theorem dX9_looks_17 : decode cX9_looks 17 = .ok (.istore 4, 2) := by decide +kernel
theorem dX9_looks_19 : decode cX9_looks 19 = .ok (.iload 4, 2) := by decide +kernel
theorem dX9_looks_21 : decode cX9_looks 21 = .ok (.ifCond .ne 29, 3) := by decide +kernel
theorem dX9_looks_24 : decode cX9_looks 24 = .ok (.aload_n 0, 1) := by decide +kernel
theorem dX9_looks_25 : decode cX9_looks 25 = .ok (.getfield 71, 3) := by decide +kernel
theorem dX9_looks_28 : decode cX9_looks 28 = .ok (.iload_n 1, 1) := by decide +kernel
theorem dX9_looks_29 : decode cX9_looks 29 = .ok (.iaload, 1) := by decide +kernel
theorem dX9_looks_30 : decode cX9_looks 30 = .ok (.aload_n 0, 1) := by decide +kernel
theorem dX9_looks_31 : decode cX9_looks 31 = .ok (.getfield 129, 3) := by decide +kernel
theorem dX9_looks_34 : decode cX9_looks 34 = .ok (.if_icmp .lt 12, 3) := by decide +kernel
theorem dX9_looks_37 : decode cX9_looks 37 = .ok (.iload_n 3, 1) := by decide +kernel
theorem dX9_looks_38 : decode cX9_looks 38 = .ok (.ifCond .lt 8, 3) := by decide +kernel
theorem dX9_looks_41 : decode cX9_looks 41 = .ok (.iload_n 3, 1) := by decide +kernel
theorem dX9_looks_42 : decode cX9_looks 42 = .ok (.iconst 1, 1) := by decide +kernel
theorem dX9_looks_43 : decode cX9_looks 43 = .ok (.if_icmp .le 7, 3) := by decide +kernel
theorem dX9_looks_46 : decode cX9_looks 46 = .ok (.bipush (-5), 2) := by decide +kernel
theorem dX9_looks_48 : decode cX9_looks 48 = .ok (.istore 4, 2) := by decide +kernel
theorem dX9_looks_50 : decode cX9_looks 50 = .ok (.iload 4, 2) := by decide +kernel
theorem dX9_looks_52 : decode cX9_looks 52 = .ok (.ifCond .eq 10, 3) := by decide +kernel
theorem dX9_looks_55 : decode cX9_looks 55 = .ok (.aload_n 0, 1) := by decide +kernel
theorem dX9_looks_56 : decode cX9_looks 56 = .ok (.iload 4, 2) := by decide +kernel
theorem dX9_looks_58 : decode cX9_looks 58 = .ok (.invokevirtual 136, 3) := by decide +kernel
theorem dX9_looks_61 : decode cX9_looks 61 = .ok (.ireturn, 1) := by decide +kernel
theorem dX9_looks_62 : decode cX9_looks 62 = .ok (.iload_n 3, 1) := by decide +kernel
theorem dX9_looks_63 : decode cX9_looks 63 = .ok (.ifCond .ne 12, 3) := by decide +kernel
theorem dX9_looks_66 : decode cX9_looks 66 = .ok (.aload_n 0, 1) := by decide +kernel
theorem dX9_looks_67 : decode cX9_looks 67 = .ok (.getfield 32, 3) := by decide +kernel
theorem dX9_looks_70 : decode cX9_looks 70 = .ok (.iload_n 2, 1) := by decide +kernel
theorem dX9_looks_71 : decode cX9_looks 71 = .ok (.iaload, 1) := by decide +kernel
theorem dX9_looks_72 : decode cX9_looks 72 = .ok (.goto 9, 3) := by decide +kernel
theorem dX9_looks_75 : decode cX9_looks 75 = .ok (.aload_n 0, 1) := by decide +kernel
theorem dX9_looks_76 : decode cX9_looks 76 = .ok (.getfield 35, 3) := by decide +kernel
theorem dX9_looks_79 : decode cX9_looks 79 = .ok (.iload_n 2, 1) := by decide +kernel
theorem dX9_looks_80 : decode cX9_looks 80 = .ok (.iaload, 1) := by decide +kernel
theorem dX9_looks_81 : decode cX9_looks 81 = .ok (.istore 5, 2) := by decide +kernel
theorem dX9_looks_83 : decode cX9_looks 83 = .ok (.iconst 0, 1) := by decide +kernel
theorem dX9_looks_84 : decode cX9_looks 84 = .ok (.istore 6, 2) := by decide +kernel
theorem dX9_looks_86 : decode cX9_looks 86 = .ok (.iconst 0, 1) := by decide +kernel
theorem dX9_looks_87 : decode cX9_looks 87 = .ok (.istore 7, 2) := by decide +kernel
theorem dX9_looks_89 : decode cX9_looks 89 = .ok (.iload 7, 2) := by decide +kernel
theorem dX9_looks_91 : decode cX9_looks 91 = .ok (.bipush 9, 2) := by decide +kernel
theorem dX9_looks_93 : decode cX9_looks 93 = .ok (.if_icmp .gt 96, 3) := by decide +kernel
theorem dX9_looks_96 : decode cX9_looks 96 = .ok (.iload_n 3, 1) := by decide +kernel
theorem dX9_looks_97 : decode cX9_looks 97 = .ok (.ifCond .ne 14, 3) := by decide +kernel
theorem dX9_looks_100 : decode cX9_looks 100 = .ok (.aload_n 0, 1) := by decide +kernel
theorem dX9_looks_101 : decode cX9_looks 101 = .ok (.getfield 32, 3) := by decide +kernel
theorem dX9_looks_104 : decode cX9_looks 104 = .ok (.iload_n 2, 1) := by decide +kernel
theorem dX9_looks_105 : decode cX9_looks 105 = .ok (.iload 7, 2) := by decide +kernel
theorem dX9_looks_107 : decode cX9_looks 107 = .ok (.iastore, 1) := by decide +kernel
theorem dX9_looks_108 : decode cX9_looks 108 = .ok (.goto 11, 3) := by decide +kernel
theorem dX9_looks_111 : decode cX9_looks 111 = .ok (.aload_n 0, 1) := by decide +kernel
theorem dX9_looks_112 : decode cX9_looks 112 = .ok (.getfield 35, 3) := by decide +kernel
theorem dX9_looks_115 : decode cX9_looks 115 = .ok (.iload_n 2, 1) := by decide +kernel
theorem dX9_looks_116 : decode cX9_looks 116 = .ok (.iload 7, 2) := by decide +kernel
theorem dX9_looks_118 : decode cX9_looks 118 = .ok (.iastore, 1) := by decide +kernel
theorem dX9_looks_119 : decode cX9_looks 119 = .ok (.iconst 1, 1) := by decide +kernel
theorem dX9_looks_120 : decode cX9_looks 120 = .ok (.istore 8, 2) := by decide +kernel
theorem dX9_looks_122 : decode cX9_looks 122 = .ok (.iconst 0, 1) := by decide +kernel
theorem dX9_looks_123 : decode cX9_looks 123 = .ok (.istore 9, 2) := by decide +kernel
theorem dX9_looks_125 : decode cX9_looks 125 = .ok (.iload 9, 2) := by decide +kernel
theorem dX9_looks_127 : decode cX9_looks 127 = .ok (.aload_n 0, 1) := by decide +kernel
theorem dX9_looks_128 : decode cX9_looks 128 = .ok (.getfield 129, 3) := by decide +kernel
theorem dX9_looks_131 : decode cX9_looks 131 = .ok (.if_icmp .ge 38, 3) := by decide +kernel
theorem dX9_looks_134 : decode cX9_looks 134 = .ok (.iload 8, 2) := by decide +kernel
theorem dX9_looks_136 : decode cX9_looks 136 = .ok (.ifCond .eq 33, 3) := by decide +kernel
theorem dX9_looks_139 : decode cX9_looks 139 = .ok (.aload_n 0, 1) := by decide +kernel
theorem dX9_looks_140 : decode cX9_looks 140 = .ok (.iload_n 2, 1) := by decide +kernel
theorem dX9_looks_141 : decode cX9_looks 141 = .ok (.iload 9, 2) := by decide +kernel
theorem dX9_looks_143 : decode cX9_looks 143 = .ok (.invokevirtual 163, 3) := by decide +kernel
theorem dX9_looks_146 : decode cX9_looks 146 = .ok (.aload_n 0, 1) := by decide +kernel
theorem dX9_looks_147 : decode cX9_looks 147 = .ok (.iload_n 1, 1) := by decide +kernel
theorem dX9_looks_148 : decode cX9_looks 148 = .ok (.iload 9, 2) := by decide +kernel
theorem dX9_looks_150 : decode cX9_looks 150 = .ok (.invokevirtual 277, 3) := by decide +kernel
theorem dX9_looks_153 : decode cX9_looks 153 = .ok (.if_icmp .ne 7, 3) := by decide +kernel
theorem dX9_looks_156 : decode cX9_looks 156 = .ok (.iconst 1, 1) := by decide +kernel
theorem dX9_looks_157 : decode cX9_looks 157 = .ok (.goto 4, 3) := by decide +kernel
theorem dX9_looks_160 : decode cX9_looks 160 = .ok (.iconst 0, 1) := by decide +kernel
theorem dX9_looks_161 : decode cX9_looks 161 = .ok (.istore 8, 2) := by decide +kernel
theorem dX9_looks_163 : decode cX9_looks 163 = .ok (.iinc 9 1, 3) := by decide +kernel
theorem dX9_looks_166 : decode cX9_looks 166 = .ok (.goto (-41), 3) := by decide +kernel
theorem dX9_looks_169 : decode cX9_looks 169 = .ok (.iload 8, 2) := by decide +kernel
theorem dX9_looks_171 : decode cX9_looks 171 = .ok (.ifCond .eq 12, 3) := by decide +kernel
theorem dX9_looks_174 : decode cX9_looks 174 = .ok (.iload 6, 2) := by decide +kernel
theorem dX9_looks_176 : decode cX9_looks 176 = .ok (.iconst 1, 1) := by decide +kernel
theorem dX9_looks_177 : decode cX9_looks 177 = .ok (.iload 7, 2) := by decide +kernel
theorem dX9_looks_179 : decode cX9_looks 179 = .ok (.ishl, 1) := by decide +kernel
theorem dX9_looks_180 : decode cX9_looks 180 = .ok (.iadd, 1) := by decide +kernel
theorem dX9_looks_181 : decode cX9_looks 181 = .ok (.istore 6, 2) := by decide +kernel
theorem dX9_looks_183 : decode cX9_looks 183 = .ok (.iinc 7 1, 3) := by decide +kernel
theorem dX9_looks_186 : decode cX9_looks 186 = .ok (.goto (-97), 3) := by decide +kernel
theorem dX9_looks_189 : decode cX9_looks 189 = .ok (.iload_n 3, 1) := by decide +kernel
theorem dX9_looks_190 : decode cX9_looks 190 = .ok (.ifCond .ne 14, 3) := by decide +kernel
theorem dX9_looks_193 : decode cX9_looks 193 = .ok (.aload_n 0, 1) := by decide +kernel
theorem dX9_looks_194 : decode cX9_looks 194 = .ok (.getfield 32, 3) := by decide +kernel
theorem dX9_looks_197 : decode cX9_looks 197 = .ok (.iload_n 2, 1) := by decide +kernel
theorem dX9_looks_198 : decode cX9_looks 198 = .ok (.iload 5, 2) := by decide +kernel
theorem dX9_looks_200 : decode cX9_looks 200 = .ok (.iastore, 1) := by decide +kernel
theorem dX9_looks_201 : decode cX9_looks 201 = .ok (.goto 11, 3) := by decide +kernel
theorem dX9_looks_204 : decode cX9_looks 204 = .ok (.aload_n 0, 1) := by decide +kernel
theorem dX9_looks_205 : decode cX9_looks 205 = .ok (.getfield 35, 3) := by decide +kernel
theorem dX9_looks_208 : decode cX9_looks 208 = .ok (.iload_n 2, 1) := by decide +kernel
theorem dX9_looks_209 : decode cX9_looks 209 = .ok (.iload 5, 2) := by decide +kernel
theorem dX9_looks_211 : decode cX9_looks 211 = .ok (.iastore, 1) := by decide +kernel
theorem dX9_looks_212 : decode cX9_looks 212 = .ok (.iload 6, 2) := by decide +kernel
theorem dX9_looks_214 : decode cX9_looks 214 = .ok (.ireturn, 1) := by decide +kernel
theorem dX9_dearestOf_0 : decode cX9_dearestOf 0 = .ok (.iconst (-1), 1) := by decide +kernel
theorem dX9_dearestOf_1 : decode cX9_dearestOf 1 = .ok (.istore_n 1, 1) := by decide +kernel
theorem dX9_dearestOf_2 : decode cX9_dearestOf 2 = .ok (.iconst 0, 1) := by decide +kernel
theorem dX9_dearestOf_3 : decode cX9_dearestOf 3 = .ok (.istore_n 2, 1) := by decide +kernel
theorem dX9_dearestOf_4 : decode cX9_dearestOf 4 = .ok (.iconst 0, 1) := by decide +kernel
theorem dX9_dearestOf_5 : decode cX9_dearestOf 5 = .ok (.istore_n 3, 1) := by decide +kernel
theorem dX9_dearestOf_6 : decode cX9_dearestOf 6 = .ok (.iload_n 3, 1) := by decide +kernel
theorem dX9_dearestOf_7 : decode cX9_dearestOf 7 = .ok (.aload_n 0, 1) := by decide +kernel
theorem dX9_dearestOf_8 : decode cX9_dearestOf 8 = .ok (.getfield 126, 3) := by decide +kernel
theorem dX9_dearestOf_11 : decode cX9_dearestOf 11 = .ok (.if_icmp .ge 59, 3) := by decide +kernel
theorem dX9_dearestOf_14 : decode cX9_dearestOf 14 = .ok (.aload_n 0, 1) := by decide +kernel
theorem dX9_dearestOf_15 : decode cX9_dearestOf 15 = .ok (.getfield 38, 3) := by decide +kernel
theorem dX9_dearestOf_18 : decode cX9_dearestOf 18 = .ok (.iload_n 3, 1) := by decide +kernel
theorem dX9_dearestOf_19 : decode cX9_dearestOf 19 = .ok (.iaload, 1) := by decide +kernel
theorem dX9_dearestOf_20 : decode cX9_dearestOf 20 = .ok (.bipush 99, 2) := by decide +kernel
theorem dX9_dearestOf_22 : decode cX9_dearestOf 22 = .ok (.if_icmp .eq 6, 3) := by decide +kernel
theorem dX9_dearestOf_25 : decode cX9_dearestOf 25 = .ok (.goto 39, 3) := by decide +kernel
theorem dX9_dearestOf_28 : decode cX9_dearestOf 28 = .ok (.aload_n 0, 1) := by decide +kernel
theorem dX9_dearestOf_29 : decode cX9_dearestOf 29 = .ok (.iload_n 3, 1) := by decide +kernel
theorem dX9_dearestOf_30 : decode cX9_dearestOf 30 = .ok (.putfield 114, 3) := by decide +kernel
theorem dX9_dearestOf_33 : decode cX9_dearestOf 33 = .ok (.aload_n 0, 1) := by decide +kernel
theorem dX9_dearestOf_34 : decode cX9_dearestOf 34 = .ok (.invokevirtual 260, 3) := by decide +kernel
theorem dX9_dearestOf_37 : decode cX9_dearestOf 37 = .ok (.iload_n 1, 1) := by decide +kernel
theorem dX9_dearestOf_38 : decode cX9_dearestOf 38 = .ok (.iconst (-1), 1) := by decide +kernel
theorem dX9_dearestOf_39 : decode cX9_dearestOf 39 = .ok (.if_icmp .eq 16, 3) := by decide +kernel
theorem dX9_dearestOf_42 : decode cX9_dearestOf 42 = .ok (.aload_n 0, 1) := by decide +kernel
theorem dX9_dearestOf_43 : decode cX9_dearestOf 43 = .ok (.iconst 0, 1) := by decide +kernel
theorem dX9_dearestOf_44 : decode cX9_dearestOf 44 = .ok (.iconst 0, 1) := by decide +kernel
theorem dX9_dearestOf_45 : decode cX9_dearestOf 45 = .ok (.invokevirtual 257, 3) := by decide +kernel
theorem dX9_dearestOf_48 : decode cX9_dearestOf 48 = .ok (.iload_n 2, 1) := by decide +kernel
theorem dX9_dearestOf_49 : decode cX9_dearestOf 49 = .ok (.if_icmp .lt 6, 3) := by decide +kernel
theorem dX9_dearestOf_52 : decode cX9_dearestOf 52 = .ok (.goto 12, 3) := by decide +kernel
theorem dX9_dearestOf_55 : decode cX9_dearestOf 55 = .ok (.iload_n 3, 1) := by decide +kernel
theorem dX9_dearestOf_56 : decode cX9_dearestOf 56 = .ok (.istore_n 1, 1) := by decide +kernel
theorem dX9_dearestOf_57 : decode cX9_dearestOf 57 = .ok (.aload_n 0, 1) := by decide +kernel
theorem dX9_dearestOf_58 : decode cX9_dearestOf 58 = .ok (.iconst 0, 1) := by decide +kernel
theorem dX9_dearestOf_59 : decode cX9_dearestOf 59 = .ok (.iconst 0, 1) := by decide +kernel
theorem dX9_dearestOf_60 : decode cX9_dearestOf 60 = .ok (.invokevirtual 257, 3) := by decide +kernel
theorem dX9_dearestOf_63 : decode cX9_dearestOf 63 = .ok (.istore_n 2, 1) := by decide +kernel
theorem dX9_dearestOf_64 : decode cX9_dearestOf 64 = .ok (.iinc 3 1, 3) := by decide +kernel
theorem dX9_dearestOf_67 : decode cX9_dearestOf 67 = .ok (.goto (-61), 3) := by decide +kernel
theorem dX9_dearestOf_70 : decode cX9_dearestOf 70 = .ok (.aload_n 0, 1) := by decide +kernel
theorem dX9_dearestOf_71 : decode cX9_dearestOf 71 = .ok (.iconst (-1), 1) := by decide +kernel
theorem dX9_dearestOf_72 : decode cX9_dearestOf 72 = .ok (.putfield 114, 3) := by decide +kernel
theorem dX9_dearestOf_75 : decode cX9_dearestOf 75 = .ok (.iload_n 1, 1) := by decide +kernel
theorem dX9_dearestOf_76 : decode cX9_dearestOf 76 = .ok (.ireturn, 1) := by decide +kernel
theorem dX9_swapOf_0 : decode cX9_swapOf 0 = .ok (.iconst (-1), 1) := by decide +kernel
theorem dX9_swapOf_1 : decode cX9_swapOf 1 = .ok (.istore_n 1, 1) := by decide +kernel
theorem dX9_swapOf_2 : decode cX9_swapOf 2 = .ok (.iconst 0, 1) := by decide +kernel
theorem dX9_swapOf_3 : decode cX9_swapOf 3 = .ok (.istore_n 2, 1) := by decide +kernel
theorem dX9_swapOf_4 : decode cX9_swapOf 4 = .ok (.iconst 0, 1) := by decide +kernel
theorem dX9_swapOf_5 : decode cX9_swapOf 5 = .ok (.istore_n 3, 1) := by decide +kernel
theorem dX9_swapOf_6 : decode cX9_swapOf 6 = .ok (.iload_n 3, 1) := by decide +kernel
theorem dX9_swapOf_7 : decode cX9_swapOf 7 = .ok (.aload_n 0, 1) := by decide +kernel
theorem dX9_swapOf_8 : decode cX9_swapOf 8 = .ok (.getfield 126, 3) := by decide +kernel
theorem dX9_swapOf_11 : decode cX9_swapOf 11 = .ok (.if_icmp .ge 194, 3) := by decide +kernel
theorem dX9_swapOf_14 : decode cX9_swapOf 14 = .ok (.iload_n 3, 1) := by decide +kernel
theorem dX9_swapOf_15 : decode cX9_swapOf 15 = .ok (.iconst 1, 1) := by decide +kernel
theorem dX9_swapOf_16 : decode cX9_swapOf 16 = .ok (.iadd, 1) := by decide +kernel
theorem dX9_swapOf_17 : decode cX9_swapOf 17 = .ok (.istore 4, 2) := by decide +kernel
theorem dX9_swapOf_19 : decode cX9_swapOf 19 = .ok (.iload 4, 2) := by decide +kernel
theorem dX9_swapOf_21 : decode cX9_swapOf 21 = .ok (.aload_n 0, 1) := by decide +kernel
theorem dX9_swapOf_22 : decode cX9_swapOf 22 = .ok (.getfield 126, 3) := by decide +kernel
theorem dX9_swapOf_25 : decode cX9_swapOf 25 = .ok (.if_icmp .ge 174, 3) := by decide +kernel
theorem dX9_swapOf_28 : decode cX9_swapOf 28 = .ok (.aload_n 0, 1) := by decide +kernel
theorem dX9_swapOf_29 : decode cX9_swapOf 29 = .ok (.getfield 38, 3) := by decide +kernel
theorem dX9_swapOf_32 : decode cX9_swapOf 32 = .ok (.iload_n 3, 1) := by decide +kernel
theorem dX9_swapOf_33 : decode cX9_swapOf 33 = .ok (.iaload, 1) := by decide +kernel
theorem dX9_swapOf_34 : decode cX9_swapOf 34 = .ok (.bipush 99, 2) := by decide +kernel
theorem dX9_swapOf_36 : decode cX9_swapOf 36 = .ok (.if_icmp .eq 157, 3) := by decide +kernel
theorem dX9_swapOf_39 : decode cX9_swapOf 39 = .ok (.aload_n 0, 1) := by decide +kernel
theorem dX9_swapOf_40 : decode cX9_swapOf 40 = .ok (.getfield 38, 3) := by decide +kernel
theorem dX9_swapOf_43 : decode cX9_swapOf 43 = .ok (.iload 4, 2) := by decide +kernel
theorem dX9_swapOf_45 : decode cX9_swapOf 45 = .ok (.iaload, 1) := by decide +kernel
theorem dX9_swapOf_46 : decode cX9_swapOf 46 = .ok (.bipush 99, 2) := by decide +kernel
theorem dX9_swapOf_48 : decode cX9_swapOf 48 = .ok (.if_icmp .eq 145, 3) := by decide +kernel
theorem dX9_swapOf_51 : decode cX9_swapOf 51 = .ok (.aload_n 0, 1) := by decide +kernel
theorem dX9_swapOf_52 : decode cX9_swapOf 52 = .ok (.getfield 38, 3) := by decide +kernel
theorem dX9_swapOf_55 : decode cX9_swapOf 55 = .ok (.iload_n 3, 1) := by decide +kernel
theorem dX9_swapOf_56 : decode cX9_swapOf 56 = .ok (.iaload, 1) := by decide +kernel
theorem dX9_swapOf_57 : decode cX9_swapOf 57 = .ok (.bipush 10, 2) := by decide +kernel
theorem dX9_swapOf_59 : decode cX9_swapOf 59 = .ok (.irem, 1) := by decide +kernel
theorem dX9_swapOf_60 : decode cX9_swapOf 60 = .ok (.aload_n 0, 1) := by decide +kernel
theorem dX9_swapOf_61 : decode cX9_swapOf 61 = .ok (.getfield 38, 3) := by decide +kernel
theorem dX9_swapOf_64 : decode cX9_swapOf 64 = .ok (.iload 4, 2) := by decide +kernel
theorem dX9_swapOf_66 : decode cX9_swapOf 66 = .ok (.iaload, 1) := by decide +kernel
theorem dX9_swapOf_67 : decode cX9_swapOf 67 = .ok (.bipush 10, 2) := by decide +kernel
theorem dX9_swapOf_69 : decode cX9_swapOf 69 = .ok (.irem, 1) := by decide +kernel
theorem dX9_swapOf_70 : decode cX9_swapOf 70 = .ok (.if_icmp .eq 6, 3) := by decide +kernel
theorem dX9_swapOf_73 : decode cX9_swapOf 73 = .ok (.goto 120, 3) := by decide +kernel
theorem dX9_swapOf_76 : decode cX9_swapOf 76 = .ok (.aload_n 0, 1) := by decide +kernel
theorem dX9_swapOf_77 : decode cX9_swapOf 77 = .ok (.getfield 38, 3) := by decide +kernel
theorem dX9_swapOf_80 : decode cX9_swapOf 80 = .ok (.iload_n 3, 1) := by decide +kernel
theorem dX9_swapOf_81 : decode cX9_swapOf 81 = .ok (.iaload, 1) := by decide +kernel
theorem dX9_swapOf_82 : decode cX9_swapOf 82 = .ok (.bipush 10, 2) := by decide +kernel
theorem dX9_swapOf_84 : decode cX9_swapOf 84 = .ok (.idiv, 1) := by decide +kernel
theorem dX9_swapOf_85 : decode cX9_swapOf 85 = .ok (.istore 5, 2) := by decide +kernel
theorem dX9_swapOf_87 : decode cX9_swapOf 87 = .ok (.aload_n 0, 1) := by decide +kernel
theorem dX9_swapOf_88 : decode cX9_swapOf 88 = .ok (.getfield 38, 3) := by decide +kernel
theorem dX9_swapOf_91 : decode cX9_swapOf 91 = .ok (.iload 4, 2) := by decide +kernel
theorem dX9_swapOf_93 : decode cX9_swapOf 93 = .ok (.iaload, 1) := by decide +kernel
theorem dX9_swapOf_94 : decode cX9_swapOf 94 = .ok (.bipush 10, 2) := by decide +kernel
theorem dX9_swapOf_96 : decode cX9_swapOf 96 = .ok (.idiv, 1) := by decide +kernel
theorem dX9_swapOf_97 : decode cX9_swapOf 97 = .ok (.istore 6, 2) := by decide +kernel
theorem dX9_swapOf_99 : decode cX9_swapOf 99 = .ok (.aload_n 0, 1) := by decide +kernel
theorem dX9_swapOf_100 : decode cX9_swapOf 100 = .ok (.getfield 38, 3) := by decide +kernel
theorem dX9_swapOf_103 : decode cX9_swapOf 103 = .ok (.iload_n 3, 1) := by decide +kernel
theorem dX9_swapOf_104 : decode cX9_swapOf 104 = .ok (.iaload, 1) := by decide +kernel
theorem dX9_swapOf_105 : decode cX9_swapOf 105 = .ok (.bipush 10, 2) := by decide +kernel
theorem dX9_swapOf_107 : decode cX9_swapOf 107 = .ok (.irem, 1) := by decide +kernel
theorem dX9_swapOf_108 : decode cX9_swapOf 108 = .ok (.istore 7, 2) := by decide +kernel
theorem dX9_swapOf_110 : decode cX9_swapOf 110 = .ok (.aload_n 0, 1) := by decide +kernel
theorem dX9_swapOf_111 : decode cX9_swapOf 111 = .ok (.iload_n 3, 1) := by decide +kernel
theorem dX9_swapOf_112 : decode cX9_swapOf 112 = .ok (.iload 6, 2) := by decide +kernel
theorem dX9_swapOf_114 : decode cX9_swapOf 114 = .ok (.iload 7, 2) := by decide +kernel
theorem dX9_swapOf_116 : decode cX9_swapOf 116 = .ok (.invokevirtual 215, 3) := by decide +kernel
theorem dX9_swapOf_119 : decode cX9_swapOf 119 = .ok (.ifCond .eq 74, 3) := by decide +kernel
theorem dX9_swapOf_122 : decode cX9_swapOf 122 = .ok (.aload_n 0, 1) := by decide +kernel
theorem dX9_swapOf_123 : decode cX9_swapOf 123 = .ok (.iload 4, 2) := by decide +kernel
theorem dX9_swapOf_125 : decode cX9_swapOf 125 = .ok (.iload 5, 2) := by decide +kernel
theorem dX9_swapOf_127 : decode cX9_swapOf 127 = .ok (.iload 7, 2) := by decide +kernel
theorem dX9_swapOf_129 : decode cX9_swapOf 129 = .ok (.invokevirtual 215, 3) := by decide +kernel
theorem dX9_swapOf_132 : decode cX9_swapOf 132 = .ok (.ifCond .ne 6, 3) := by decide +kernel
theorem dX9_swapOf_135 : decode cX9_swapOf 135 = .ok (.goto 58, 3) := by decide +kernel
theorem dX9_swapOf_138 : decode cX9_swapOf 138 = .ok (.aload_n 0, 1) := by decide +kernel
theorem dX9_swapOf_139 : decode cX9_swapOf 139 = .ok (.iload_n 3, 1) := by decide +kernel
theorem dX9_swapOf_140 : decode cX9_swapOf 140 = .ok (.iload 5, 2) := by decide +kernel
theorem dX9_swapOf_142 : decode cX9_swapOf 142 = .ok (.invokevirtual 163, 3) := by decide +kernel
theorem dX9_swapOf_145 : decode cX9_swapOf 145 = .ok (.aload_n 0, 1) := by decide +kernel
theorem dX9_swapOf_146 : decode cX9_swapOf 146 = .ok (.iload 4, 2) := by decide +kernel
theorem dX9_swapOf_148 : decode cX9_swapOf 148 = .ok (.iload 6, 2) := by decide +kernel
theorem dX9_swapOf_150 : decode cX9_swapOf 150 = .ok (.invokevirtual 163, 3) := by decide +kernel
theorem dX9_swapOf_153 : decode cX9_swapOf 153 = .ok (.iadd, 1) := by decide +kernel
theorem dX9_swapOf_154 : decode cX9_swapOf 154 = .ok (.aload_n 0, 1) := by decide +kernel
theorem dX9_swapOf_155 : decode cX9_swapOf 155 = .ok (.iload_n 3, 1) := by decide +kernel
theorem dX9_swapOf_156 : decode cX9_swapOf 156 = .ok (.iload 6, 2) := by decide +kernel
theorem dX9_swapOf_158 : decode cX9_swapOf 158 = .ok (.invokevirtual 163, 3) := by decide +kernel
theorem dX9_swapOf_161 : decode cX9_swapOf 161 = .ok (.isub, 1) := by decide +kernel
theorem dX9_swapOf_162 : decode cX9_swapOf 162 = .ok (.aload_n 0, 1) := by decide +kernel
theorem dX9_swapOf_163 : decode cX9_swapOf 163 = .ok (.iload 4, 2) := by decide +kernel
theorem dX9_swapOf_165 : decode cX9_swapOf 165 = .ok (.iload 5, 2) := by decide +kernel
theorem dX9_swapOf_167 : decode cX9_swapOf 167 = .ok (.invokevirtual 163, 3) := by decide +kernel
theorem dX9_swapOf_170 : decode cX9_swapOf 170 = .ok (.isub, 1) := by decide +kernel
theorem dX9_swapOf_171 : decode cX9_swapOf 171 = .ok (.istore 8, 2) := by decide +kernel
theorem dX9_swapOf_173 : decode cX9_swapOf 173 = .ok (.iload 8, 2) := by decide +kernel
theorem dX9_swapOf_175 : decode cX9_swapOf 175 = .ok (.iload_n 2, 1) := by decide +kernel
theorem dX9_swapOf_176 : decode cX9_swapOf 176 = .ok (.if_icmp .gt 6, 3) := by decide +kernel
theorem dX9_swapOf_179 : decode cX9_swapOf 179 = .ok (.goto 14, 3) := by decide +kernel
theorem dX9_swapOf_182 : decode cX9_swapOf 182 = .ok (.bipush 10, 2) := by decide +kernel
theorem dX9_swapOf_184 : decode cX9_swapOf 184 = .ok (.iload_n 3, 1) := by decide +kernel
theorem dX9_swapOf_185 : decode cX9_swapOf 185 = .ok (.imul, 1) := by decide +kernel
theorem dX9_swapOf_186 : decode cX9_swapOf 186 = .ok (.iload 4, 2) := by decide +kernel
theorem dX9_swapOf_188 : decode cX9_swapOf 188 = .ok (.iadd, 1) := by decide +kernel
theorem dX9_swapOf_189 : decode cX9_swapOf 189 = .ok (.istore_n 1, 1) := by decide +kernel
theorem dX9_swapOf_190 : decode cX9_swapOf 190 = .ok (.iload 8, 2) := by decide +kernel
theorem dX9_swapOf_192 : decode cX9_swapOf 192 = .ok (.istore_n 2, 1) := by decide +kernel
theorem dX9_swapOf_193 : decode cX9_swapOf 193 = .ok (.iinc 4 1, 3) := by decide +kernel
theorem dX9_swapOf_196 : decode cX9_swapOf 196 = .ok (.goto (-177), 3) := by decide +kernel
theorem dX9_swapOf_199 : decode cX9_swapOf 199 = .ok (.iinc 3 1, 3) := by decide +kernel
theorem dX9_swapOf_202 : decode cX9_swapOf 202 = .ok (.goto (-196), 3) := by decide +kernel
theorem dX9_swapOf_205 : decode cX9_swapOf 205 = .ok (.iload_n 1, 1) := by decide +kernel
theorem dX9_swapOf_206 : decode cX9_swapOf 206 = .ok (.ireturn, 1) := by decide +kernel
theorem dX9_dearest_0 : decode cX9_dearest 0 = .ok (.iload_n 1, 1) := by decide +kernel
theorem dX9_dearest_1 : decode cX9_dearest 1 = .ok (.ifCond .lt 8, 3) := by decide +kernel
theorem dX9_dearest_4 : decode cX9_dearest 4 = .ok (.iload_n 1, 1) := by decide +kernel
theorem dX9_dearest_5 : decode cX9_dearest 5 = .ok (.iconst 1, 1) := by decide +kernel
theorem dX9_dearest_6 : decode cX9_dearest 6 = .ok (.if_icmp .le 10, 3) := by decide +kernel
theorem dX9_dearest_9 : decode cX9_dearest 9 = .ok (.aload_n 0, 1) := by decide +kernel
theorem dX9_dearest_10 : decode cX9_dearest 10 = .ok (.bipush (-5), 2) := by decide +kernel
theorem dX9_dearest_12 : decode cX9_dearest 12 = .ok (.invokevirtual 190, 3) := by decide +kernel
theorem dX9_dearest_15 : decode cX9_dearest 15 = .ok (.ireturn, 1) := by decide +kernel
theorem dX9_dearest_16 : decode cX9_dearest 16 = .ok (.iload_n 1, 1) := by decide +kernel
theorem dX9_dearest_17 : decode cX9_dearest 17 = .ok (.ifCond .ne 10, 3) := by decide +kernel
theorem dX9_dearest_20 : decode cX9_dearest 20 = .ok (.aload_n 0, 1) := by decide +kernel
theorem dX9_dearest_21 : decode cX9_dearest 21 = .ok (.invokevirtual 280, 3) := by decide +kernel
theorem dX9_dearest_24 : decode cX9_dearest 24 = .ok (.goto 7, 3) := by decide +kernel
theorem dX9_dearest_27 : decode cX9_dearest 27 = .ok (.aload_n 0, 1) := by decide +kernel
theorem dX9_dearest_28 : decode cX9_dearest 28 = .ok (.invokevirtual 283, 3) := by decide +kernel
theorem dX9_dearest_31 : decode cX9_dearest 31 = .ok (.ireturn, 1) := by decide +kernel
theorem dX9_isMend_0 : decode cX9_isMend 0 = .ok (.aload_n 0, 1) := by decide +kernel
theorem dX9_isMend_1 : decode cX9_isMend 1 = .ok (.getfield 38, 3) := by decide +kernel
theorem dX9_isMend_4 : decode cX9_isMend 4 = .ok (.iload_n 1, 1) := by decide +kernel
theorem dX9_isMend_5 : decode cX9_isMend 5 = .ok (.iaload, 1) := by decide +kernel
theorem dX9_isMend_6 : decode cX9_isMend 6 = .ok (.bipush 99, 2) := by decide +kernel
theorem dX9_isMend_8 : decode cX9_isMend 8 = .ok (.if_icmp .ne 27, 3) := by decide +kernel
theorem dX9_isMend_11 : decode cX9_isMend 11 = .ok (.aload_n 0, 1) := by decide +kernel
theorem dX9_isMend_12 : decode cX9_isMend 12 = .ok (.iload_n 2, 1) := by decide +kernel
theorem dX9_isMend_13 : decode cX9_isMend 13 = .ok (.iload_n 3, 1) := by decide +kernel
theorem dX9_isMend_14 : decode cX9_isMend 14 = .ok (.invokevirtual 160, 3) := by decide +kernel
theorem dX9_isMend_17 : decode cX9_isMend 17 = .ok (.iconst (-1), 1) := by decide +kernel
theorem dX9_isMend_18 : decode cX9_isMend 18 = .ok (.if_icmp .ne 17, 3) := by decide +kernel
theorem dX9_isMend_21 : decode cX9_isMend 21 = .ok (.aload_n 0, 1) := by decide +kernel
theorem dX9_isMend_22 : decode cX9_isMend 22 = .ok (.iload_n 1, 1) := by decide +kernel
theorem dX9_isMend_23 : decode cX9_isMend 23 = .ok (.iload_n 2, 1) := by decide +kernel
theorem dX9_isMend_24 : decode cX9_isMend 24 = .ok (.iload_n 3, 1) := by decide +kernel
theorem dX9_isMend_25 : decode cX9_isMend 25 = .ok (.invokevirtual 215, 3) := by decide +kernel
theorem dX9_isMend_28 : decode cX9_isMend 28 = .ok (.ifCond .eq 7, 3) := by decide +kernel
theorem dX9_isMend_31 : decode cX9_isMend 31 = .ok (.iconst 1, 1) := by decide +kernel
theorem dX9_isMend_32 : decode cX9_isMend 32 = .ok (.goto 4, 3) := by decide +kernel
theorem dX9_isMend_35 : decode cX9_isMend 35 = .ok (.iconst 0, 1) := by decide +kernel
theorem dX9_isMend_36 : decode cX9_isMend 36 = .ok (.ireturn, 1) := by decide +kernel
theorem dX9_mends_0 : decode cX9_mends 0 = .ok (.aload_n 0, 1) := by decide +kernel
theorem dX9_mends_1 : decode cX9_mends 1 = .ok (.getfield 38, 3) := by decide +kernel
theorem dX9_mends_4 : decode cX9_mends 4 = .ok (.iload_n 1, 1) := by decide +kernel
theorem dX9_mends_5 : decode cX9_mends 5 = .ok (.bipush 10, 2) := by decide +kernel
theorem dX9_mends_7 : decode cX9_mends 7 = .ok (.iload_n 2, 1) := by decide +kernel
theorem dX9_mends_8 : decode cX9_mends 8 = .ok (.imul, 1) := by decide +kernel
theorem dX9_mends_9 : decode cX9_mends 9 = .ok (.iload_n 3, 1) := by decide +kernel
theorem dX9_mends_10 : decode cX9_mends 10 = .ok (.iadd, 1) := by decide +kernel
theorem dX9_mends_11 : decode cX9_mends 11 = .ok (.iastore, 1) := by decide +kernel
theorem dX9_mends_12 : decode cX9_mends 12 = .ok (.aload_n 0, 1) := by decide +kernel
theorem dX9_mends_13 : decode cX9_mends 13 = .ok (.dup, 1) := by decide +kernel
theorem dX9_mends_14 : decode cX9_mends 14 = .ok (.getfield 235, 3) := by decide +kernel
theorem dX9_mends_17 : decode cX9_mends 17 = .ok (.iconst 1, 1) := by decide +kernel
theorem dX9_mends_18 : decode cX9_mends 18 = .ok (.iadd, 1) := by decide +kernel
theorem dX9_mends_19 : decode cX9_mends 19 = .ok (.putfield 235, 3) := by decide +kernel
theorem dX9_mends_22 : decode cX9_mends 22 = .ok (.aload_n 0, 1) := by decide +kernel
theorem dX9_mends_23 : decode cX9_mends 23 = .ok (.dup, 1) := by decide +kernel
theorem dX9_mends_24 : decode cX9_mends 24 = .ok (.getfield 238, 3) := by decide +kernel
theorem dX9_mends_27 : decode cX9_mends 27 = .ok (.aload_n 0, 1) := by decide +kernel
theorem dX9_mends_28 : decode cX9_mends 28 = .ok (.getfield 53, 3) := by decide +kernel
theorem dX9_mends_31 : decode cX9_mends 31 = .ok (.iload_n 2, 1) := by decide +kernel
theorem dX9_mends_32 : decode cX9_mends 32 = .ok (.iaload, 1) := by decide +kernel
theorem dX9_mends_33 : decode cX9_mends 33 = .ok (.iadd, 1) := by decide +kernel
theorem dX9_mends_34 : decode cX9_mends 34 = .ok (.putfield 238, 3) := by decide +kernel
theorem dX9_mends_37 : decode cX9_mends 37 = .ok (.return_, 1) := by decide +kernel
theorem dX9_goes_0 : decode cX9_goes 0 = .ok (.iconst 0, 1) := by decide +kernel
theorem dX9_goes_1 : decode cX9_goes 1 = .ok (.istore_n 3, 1) := by decide +kernel
theorem dX9_goes_2 : decode cX9_goes 2 = .ok (.iload_n 3, 1) := by decide +kernel
theorem dX9_goes_3 : decode cX9_goes 3 = .ok (.iload_n 2, 1) := by decide +kernel
theorem dX9_goes_4 : decode cX9_goes 4 = .ok (.if_icmp .ge 103, 3) := by decide +kernel
theorem dX9_goes_7 : decode cX9_goes 7 = .ok (.aload_n 0, 1) := by decide +kernel
theorem dX9_goes_8 : decode cX9_goes 8 = .ok (.iload_n 1, 1) := by decide +kernel
theorem dX9_goes_9 : decode cX9_goes 9 = .ok (.iconst 2, 1) := by decide +kernel
theorem dX9_goes_10 : decode cX9_goes 10 = .ok (.iload_n 3, 1) := by decide +kernel
theorem dX9_goes_11 : decode cX9_goes 11 = .ok (.imul, 1) := by decide +kernel
theorem dX9_goes_12 : decode cX9_goes 12 = .ok (.invokevirtual 277, 3) := by decide +kernel
theorem dX9_goes_15 : decode cX9_goes 15 = .ok (.istore 4, 2) := by decide +kernel
theorem dX9_goes_17 : decode cX9_goes 17 = .ok (.aload_n 0, 1) := by decide +kernel
theorem dX9_goes_18 : decode cX9_goes 18 = .ok (.iload_n 1, 1) := by decide +kernel
theorem dX9_goes_19 : decode cX9_goes 19 = .ok (.iconst 2, 1) := by decide +kernel
theorem dX9_goes_20 : decode cX9_goes 20 = .ok (.iload_n 3, 1) := by decide +kernel
theorem dX9_goes_21 : decode cX9_goes 21 = .ok (.imul, 1) := by decide +kernel
theorem dX9_goes_22 : decode cX9_goes 22 = .ok (.iconst 1, 1) := by decide +kernel
theorem dX9_goes_23 : decode cX9_goes 23 = .ok (.iadd, 1) := by decide +kernel
theorem dX9_goes_24 : decode cX9_goes 24 = .ok (.invokevirtual 277, 3) := by decide +kernel
theorem dX9_goes_27 : decode cX9_goes 27 = .ok (.istore 5, 2) := by decide +kernel
theorem dX9_goes_29 : decode cX9_goes 29 = .ok (.aload_n 0, 1) := by decide +kernel
theorem dX9_goes_30 : decode cX9_goes 30 = .ok (.iload 4, 2) := by decide +kernel
theorem dX9_goes_32 : decode cX9_goes 32 = .ok (.invokevirtual 140, 3) := by decide +kernel
theorem dX9_goes_35 : decode cX9_goes 35 = .ok (.ifCond .eq 48, 3) := by decide +kernel
theorem dX9_goes_38 : decode cX9_goes 38 = .ok (.iload 5, 2) := by decide +kernel
theorem dX9_goes_40 : decode cX9_goes 40 = .ok (.ifCond .lt 43, 3) := by decide +kernel
theorem dX9_goes_43 : decode cX9_goes 43 = .ok (.iload 5, 2) := by decide +kernel
theorem dX9_goes_45 : decode cX9_goes 45 = .ok (.bipush 10, 2) := by decide +kernel
theorem dX9_goes_47 : decode cX9_goes 47 = .ok (.idiv, 1) := by decide +kernel
theorem dX9_goes_48 : decode cX9_goes 48 = .ok (.aload_n 0, 1) := by decide +kernel
theorem dX9_goes_49 : decode cX9_goes 49 = .ok (.getfield 129, 3) := by decide +kernel
theorem dX9_goes_52 : decode cX9_goes 52 = .ok (.if_icmp .ge 31, 3) := by decide +kernel
theorem dX9_goes_55 : decode cX9_goes 55 = .ok (.iload 5, 2) := by decide +kernel
theorem dX9_goes_57 : decode cX9_goes 57 = .ok (.bipush 10, 2) := by decide +kernel
theorem dX9_goes_59 : decode cX9_goes 59 = .ok (.irem, 1) := by decide +kernel
theorem dX9_goes_60 : decode cX9_goes 60 = .ok (.iconst 1, 1) := by decide +kernel
theorem dX9_goes_61 : decode cX9_goes 61 = .ok (.if_icmp .gt 22, 3) := by decide +kernel
theorem dX9_goes_64 : decode cX9_goes 64 = .ok (.aload_n 0, 1) := by decide +kernel
theorem dX9_goes_65 : decode cX9_goes 65 = .ok (.iload 4, 2) := by decide +kernel
theorem dX9_goes_67 : decode cX9_goes 67 = .ok (.iload 5, 2) := by decide +kernel
theorem dX9_goes_69 : decode cX9_goes 69 = .ok (.bipush 10, 2) := by decide +kernel
theorem dX9_goes_71 : decode cX9_goes 71 = .ok (.idiv, 1) := by decide +kernel
theorem dX9_goes_72 : decode cX9_goes 72 = .ok (.iload 5, 2) := by decide +kernel
theorem dX9_goes_74 : decode cX9_goes 74 = .ok (.bipush 10, 2) := by decide +kernel
theorem dX9_goes_76 : decode cX9_goes 76 = .ok (.irem, 1) := by decide +kernel
theorem dX9_goes_77 : decode cX9_goes 77 = .ok (.invokevirtual 286, 3) := by decide +kernel
theorem dX9_goes_80 : decode cX9_goes 80 = .ok (.ifCond .ne 5, 3) := by decide +kernel
theorem dX9_goes_83 : decode cX9_goes 83 = .ok (.iload_n 3, 1) := by decide +kernel
theorem dX9_goes_84 : decode cX9_goes 84 = .ok (.ireturn, 1) := by decide +kernel
theorem dX9_goes_85 : decode cX9_goes 85 = .ok (.aload_n 0, 1) := by decide +kernel
theorem dX9_goes_86 : decode cX9_goes 86 = .ok (.iload 4, 2) := by decide +kernel
theorem dX9_goes_88 : decode cX9_goes 88 = .ok (.iload 5, 2) := by decide +kernel
theorem dX9_goes_90 : decode cX9_goes 90 = .ok (.bipush 10, 2) := by decide +kernel
theorem dX9_goes_92 : decode cX9_goes 92 = .ok (.idiv, 1) := by decide +kernel
theorem dX9_goes_93 : decode cX9_goes 93 = .ok (.iload 5, 2) := by decide +kernel
theorem dX9_goes_95 : decode cX9_goes 95 = .ok (.bipush 10, 2) := by decide +kernel
theorem dX9_goes_97 : decode cX9_goes 97 = .ok (.irem, 1) := by decide +kernel
theorem dX9_goes_98 : decode cX9_goes 98 = .ok (.invokevirtual 289, 3) := by decide +kernel
theorem dX9_goes_101 : decode cX9_goes 101 = .ok (.iinc 3 1, 3) := by decide +kernel
theorem dX9_goes_104 : decode cX9_goes 104 = .ok (.goto (-102), 3) := by decide +kernel
theorem dX9_goes_107 : decode cX9_goes 107 = .ok (.iconst (-1), 1) := by decide +kernel
theorem dX9_goes_108 : decode cX9_goes 108 = .ok (.ireturn, 1) := by decide +kernel
theorem dX9_barsOf_0 : decode cX9_barsOf 0 = .ok (.aload_n 0, 1) := by decide +kernel
theorem dX9_barsOf_1 : decode cX9_barsOf 1 = .ok (.iload_n 1, 1) := by decide +kernel
theorem dX9_barsOf_2 : decode cX9_barsOf 2 = .ok (.invokevirtual 244, 3) := by decide +kernel
theorem dX9_barsOf_5 : decode cX9_barsOf 5 = .ok (.istore_n 3, 1) := by decide +kernel
theorem dX9_barsOf_6 : decode cX9_barsOf 6 = .ok (.iload_n 3, 1) := by decide +kernel
theorem dX9_barsOf_7 : decode cX9_barsOf 7 = .ok (.ifCond .eq 7, 3) := by decide +kernel
theorem dX9_barsOf_10 : decode cX9_barsOf 10 = .ok (.iload_n 3, 1) := by decide +kernel
theorem dX9_barsOf_11 : decode cX9_barsOf 11 = .ok (.goto 41, 3) := by decide +kernel
theorem dX9_barsOf_14 : decode cX9_barsOf 14 = .ok (.iload_n 2, 1) := by decide +kernel
theorem dX9_barsOf_15 : decode cX9_barsOf 15 = .ok (.ifCond .ge 8, 3) := by decide +kernel
theorem dX9_barsOf_18 : decode cX9_barsOf 18 = .ok (.bipush (-4), 2) := by decide +kernel
theorem dX9_barsOf_20 : decode cX9_barsOf 20 = .ok (.goto 32, 3) := by decide +kernel
theorem dX9_barsOf_23 : decode cX9_barsOf 23 = .ok (.iload_n 2, 1) := by decide +kernel
theorem dX9_barsOf_24 : decode cX9_barsOf 24 = .ok (.aload_n 0, 1) := by decide +kernel
theorem dX9_barsOf_25 : decode cX9_barsOf 25 = .ok (.getfield 71, 3) := by decide +kernel
theorem dX9_barsOf_28 : decode cX9_barsOf 28 = .ok (.iload_n 1, 1) := by decide +kernel
theorem dX9_barsOf_29 : decode cX9_barsOf 29 = .ok (.iaload, 1) := by decide +kernel
theorem dX9_barsOf_30 : decode cX9_barsOf 30 = .ok (.iconst 2, 1) := by decide +kernel
theorem dX9_barsOf_31 : decode cX9_barsOf 31 = .ok (.idiv, 1) := by decide +kernel
theorem dX9_barsOf_32 : decode cX9_barsOf 32 = .ok (.if_icmp .le 8, 3) := by decide +kernel
theorem dX9_barsOf_35 : decode cX9_barsOf 35 = .ok (.bipush (-5), 2) := by decide +kernel
theorem dX9_barsOf_37 : decode cX9_barsOf 37 = .ok (.goto 15, 3) := by decide +kernel
theorem dX9_barsOf_40 : decode cX9_barsOf 40 = .ok (.iload_n 2, 1) := by decide +kernel
theorem dX9_barsOf_41 : decode cX9_barsOf 41 = .ok (.bipush 20, 2) := by decide +kernel
theorem dX9_barsOf_43 : decode cX9_barsOf 43 = .ok (.if_icmp .le 8, 3) := by decide +kernel
theorem dX9_barsOf_46 : decode cX9_barsOf 46 = .ok (.bipush (-6), 2) := by decide +kernel
theorem dX9_barsOf_48 : decode cX9_barsOf 48 = .ok (.goto 4, 3) := by decide +kernel
theorem dX9_barsOf_51 : decode cX9_barsOf 51 = .ok (.iconst 0, 1) := by decide +kernel
theorem dX9_barsOf_52 : decode cX9_barsOf 52 = .ok (.ireturn, 1) := by decide +kernel
theorem dX9_judge_0 : decode cX9_judge 0 = .ok (.aload_n 0, 1) := by decide +kernel
theorem dX9_judge_1 : decode cX9_judge 1 = .ok (.iload_n 1, 1) := by decide +kernel
theorem dX9_judge_2 : decode cX9_judge 2 = .ok (.iload_n 2, 1) := by decide +kernel
theorem dX9_judge_3 : decode cX9_judge 3 = .ok (.invokevirtual 293, 3) := by decide +kernel
theorem dX9_judge_6 : decode cX9_judge 6 = .ok (.istore_n 3, 1) := by decide +kernel
theorem dX9_judge_7 : decode cX9_judge 7 = .ok (.iload_n 3, 1) := by decide +kernel
theorem dX9_judge_8 : decode cX9_judge 8 = .ok (.ifCond .eq 9, 3) := by decide +kernel
theorem dX9_judge_11 : decode cX9_judge 11 = .ok (.aload_n 0, 1) := by decide +kernel
theorem dX9_judge_12 : decode cX9_judge 12 = .ok (.iload_n 3, 1) := by decide +kernel
theorem dX9_judge_13 : decode cX9_judge 13 = .ok (.invokevirtual 190, 3) := by decide +kernel
theorem dX9_judge_16 : decode cX9_judge 16 = .ok (.ireturn, 1) := by decide +kernel
theorem dX9_judge_17 : decode cX9_judge 17 = .ok (.aload_n 0, 1) := by decide +kernel
theorem dX9_judge_18 : decode cX9_judge 18 = .ok (.aload_n 0, 1) := by decide +kernel
theorem dX9_judge_19 : decode cX9_judge 19 = .ok (.getfield 105, 3) := by decide +kernel
theorem dX9_judge_22 : decode cX9_judge 22 = .ok (.iconst 0, 1) := by decide +kernel
theorem dX9_judge_23 : decode cX9_judge 23 = .ok (.invokevirtual 247, 3) := by decide +kernel
theorem dX9_judge_26 : decode cX9_judge 26 = .ok (.aload_n 0, 1) := by decide +kernel
theorem dX9_judge_27 : decode cX9_judge 27 = .ok (.iload_n 1, 1) := by decide +kernel
theorem dX9_judge_28 : decode cX9_judge 28 = .ok (.iload_n 2, 1) := by decide +kernel
theorem dX9_judge_29 : decode cX9_judge 29 = .ok (.invokevirtual 296, 3) := by decide +kernel
theorem dX9_judge_32 : decode cX9_judge 32 = .ok (.istore 4, 2) := by decide +kernel
theorem dX9_judge_34 : decode cX9_judge 34 = .ok (.aload_n 0, 1) := by decide +kernel
theorem dX9_judge_35 : decode cX9_judge 35 = .ok (.aload_n 0, 1) := by decide +kernel
theorem dX9_judge_36 : decode cX9_judge 36 = .ok (.getfield 105, 3) := by decide +kernel
theorem dX9_judge_39 : decode cX9_judge 39 = .ok (.iconst 1, 1) := by decide +kernel
theorem dX9_judge_40 : decode cX9_judge 40 = .ok (.invokevirtual 247, 3) := by decide +kernel
theorem dX9_judge_43 : decode cX9_judge 43 = .ok (.iload 4, 2) := by decide +kernel
theorem dX9_judge_45 : decode cX9_judge 45 = .ok (.ireturn, 1) := by decide +kernel
theorem dX9_withBoth_0 : decode cX9_withBoth 0 = .ok (.iconst 0, 1) := by decide +kernel
theorem dX9_withBoth_1 : decode cX9_withBoth 1 = .ok (.istore_n 1, 1) := by decide +kernel
theorem dX9_withBoth_2 : decode cX9_withBoth 2 = .ok (.iconst 0, 1) := by decide +kernel
theorem dX9_withBoth_3 : decode cX9_withBoth 3 = .ok (.istore_n 2, 1) := by decide +kernel
theorem dX9_withBoth_4 : decode cX9_withBoth 4 = .ok (.iload_n 2, 1) := by decide +kernel
theorem dX9_withBoth_5 : decode cX9_withBoth 5 = .ok (.aload_n 0, 1) := by decide +kernel
theorem dX9_withBoth_6 : decode cX9_withBoth 6 = .ok (.getfield 129, 3) := by decide +kernel
theorem dX9_withBoth_9 : decode cX9_withBoth 9 = .ok (.if_icmp .ge 32, 3) := by decide +kernel
theorem dX9_withBoth_12 : decode cX9_withBoth 12 = .ok (.aload_n 0, 1) := by decide +kernel
theorem dX9_withBoth_13 : decode cX9_withBoth 13 = .ok (.iload_n 2, 1) := by decide +kernel
theorem dX9_withBoth_14 : decode cX9_withBoth 14 = .ok (.iconst 0, 1) := by decide +kernel
theorem dX9_withBoth_15 : decode cX9_withBoth 15 = .ok (.invokevirtual 160, 3) := by decide +kernel
theorem dX9_withBoth_18 : decode cX9_withBoth 18 = .ok (.iconst (-1), 1) := by decide +kernel
theorem dX9_withBoth_19 : decode cX9_withBoth 19 = .ok (.if_icmp .eq 16, 3) := by decide +kernel
theorem dX9_withBoth_22 : decode cX9_withBoth 22 = .ok (.aload_n 0, 1) := by decide +kernel
theorem dX9_withBoth_23 : decode cX9_withBoth 23 = .ok (.iload_n 2, 1) := by decide +kernel
theorem dX9_withBoth_24 : decode cX9_withBoth 24 = .ok (.iconst 1, 1) := by decide +kernel
theorem dX9_withBoth_25 : decode cX9_withBoth 25 = .ok (.invokevirtual 160, 3) := by decide +kernel
theorem dX9_withBoth_28 : decode cX9_withBoth 28 = .ok (.iconst (-1), 1) := by decide +kernel
theorem dX9_withBoth_29 : decode cX9_withBoth 29 = .ok (.if_icmp .eq 6, 3) := by decide +kernel
theorem dX9_withBoth_32 : decode cX9_withBoth 32 = .ok (.iinc 1 1, 3) := by decide +kernel
theorem dX9_withBoth_35 : decode cX9_withBoth 35 = .ok (.iinc 2 1, 3) := by decide +kernel
theorem dX9_withBoth_38 : decode cX9_withBoth 38 = .ok (.goto (-34), 3) := by decide +kernel
theorem dX9_withBoth_41 : decode cX9_withBoth 41 = .ok (.iload_n 1, 1) := by decide +kernel
theorem dX9_withBoth_42 : decode cX9_withBoth 42 = .ok (.ireturn, 1) := by decide +kernel
theorem dX9_then_0 : decode cX9_then 0 = .ok (.iload_n 1, 1) := by decide +kernel
theorem dX9_then_1 : decode cX9_then 1 = .ok (.ifCond .ne 8, 3) := by decide +kernel
theorem dX9_then_4 : decode cX9_then 4 = .ok (.aload_n 0, 1) := by decide +kernel
theorem dX9_then_5 : decode cX9_then 5 = .ok (.invokevirtual 299, 3) := by decide +kernel
theorem dX9_then_8 : decode cX9_then 8 = .ok (.ireturn, 1) := by decide +kernel
theorem dX9_then_9 : decode cX9_then 9 = .ok (.iconst 0, 1) := by decide +kernel
theorem dX9_then_10 : decode cX9_then 10 = .ok (.istore_n 2, 1) := by decide +kernel
theorem dX9_then_11 : decode cX9_then 11 = .ok (.iconst 0, 1) := by decide +kernel
theorem dX9_then_12 : decode cX9_then 12 = .ok (.istore_n 3, 1) := by decide +kernel
theorem dX9_then_13 : decode cX9_then 13 = .ok (.iload_n 3, 1) := by decide +kernel
theorem dX9_then_14 : decode cX9_then 14 = .ok (.aload_n 0, 1) := by decide +kernel
theorem dX9_then_15 : decode cX9_then 15 = .ok (.getfield 129, 3) := by decide +kernel
theorem dX9_then_18 : decode cX9_then 18 = .ok (.if_icmp .ge 38, 3) := by decide +kernel
theorem dX9_then_21 : decode cX9_then 21 = .ok (.iload_n 2, 1) := by decide +kernel
theorem dX9_then_22 : decode cX9_then 22 = .ok (.iload_n 1, 1) := by decide +kernel
theorem dX9_then_23 : decode cX9_then 23 = .ok (.iconst 1, 1) := by decide +kernel
theorem dX9_then_24 : decode cX9_then 24 = .ok (.if_icmp .ne 11, 3) := by decide +kernel
theorem dX9_then_27 : decode cX9_then 27 = .ok (.aload_n 0, 1) := by decide +kernel
theorem dX9_then_28 : decode cX9_then 28 = .ok (.iload_n 3, 1) := by decide +kernel
theorem dX9_then_29 : decode cX9_then 29 = .ok (.invokevirtual 166, 3) := by decide +kernel
theorem dX9_then_32 : decode cX9_then 32 = .ok (.goto 16, 3) := by decide +kernel
theorem dX9_then_35 : decode cX9_then 35 = .ok (.aload_n 0, 1) := by decide +kernel
theorem dX9_then_36 : decode cX9_then 36 = .ok (.iload_n 3, 1) := by decide +kernel
theorem dX9_then_37 : decode cX9_then 37 = .ok (.invokevirtual 187, 3) := by decide +kernel
theorem dX9_then_40 : decode cX9_then 40 = .ok (.ifCond .eq 7, 3) := by decide +kernel
theorem dX9_then_43 : decode cX9_then 43 = .ok (.iconst 1, 1) := by decide +kernel
theorem dX9_then_44 : decode cX9_then 44 = .ok (.goto 4, 3) := by decide +kernel
theorem dX9_then_47 : decode cX9_then 47 = .ok (.iconst 0, 1) := by decide +kernel
theorem dX9_then_48 : decode cX9_then 48 = .ok (.iadd, 1) := by decide +kernel
theorem dX9_then_49 : decode cX9_then 49 = .ok (.istore_n 2, 1) := by decide +kernel
theorem dX9_then_50 : decode cX9_then 50 = .ok (.iinc 3 1, 3) := by decide +kernel
theorem dX9_then_53 : decode cX9_then 53 = .ok (.goto (-40), 3) := by decide +kernel
theorem dX9_then_56 : decode cX9_then 56 = .ok (.iload_n 2, 1) := by decide +kernel
theorem dX9_then_57 : decode cX9_then 57 = .ok (.ireturn, 1) := by decide +kernel
theorem dX9_behind_0 : decode cX9_behind 0 = .ok (.aload_n 0, 1) := by decide +kernel
theorem dX9_behind_1 : decode cX9_behind 1 = .ok (.iload_n 1, 1) := by decide +kernel
theorem dX9_behind_2 : decode cX9_behind 2 = .ok (.iload_n 2, 1) := by decide +kernel
theorem dX9_behind_3 : decode cX9_behind 3 = .ok (.invokevirtual 293, 3) := by decide +kernel
theorem dX9_behind_6 : decode cX9_behind 6 = .ok (.istore 4, 2) := by decide +kernel
theorem dX9_behind_8 : decode cX9_behind 8 = .ok (.iload 4, 2) := by decide +kernel
theorem dX9_behind_10 : decode cX9_behind 10 = .ok (.ifCond .eq 10, 3) := by decide +kernel
theorem dX9_behind_13 : decode cX9_behind 13 = .ok (.iload 4, 2) := by decide +kernel
theorem dX9_behind_15 : decode cX9_behind 15 = .ok (.bipush (-6), 2) := by decide +kernel
theorem dX9_behind_17 : decode cX9_behind 17 = .ok (.if_icmp .ne 16, 3) := by decide +kernel
theorem dX9_behind_20 : decode cX9_behind 20 = .ok (.iload_n 3, 1) := by decide +kernel
theorem dX9_behind_21 : decode cX9_behind 21 = .ok (.ifCond .lt 8, 3) := by decide +kernel
theorem dX9_behind_24 : decode cX9_behind 24 = .ok (.iload_n 3, 1) := by decide +kernel
theorem dX9_behind_25 : decode cX9_behind 25 = .ok (.iconst 2, 1) := by decide +kernel
theorem dX9_behind_26 : decode cX9_behind 26 = .ok (.if_icmp .le 7, 3) := by decide +kernel
theorem dX9_behind_29 : decode cX9_behind 29 = .ok (.bipush (-5), 2) := by decide +kernel
theorem dX9_behind_31 : decode cX9_behind 31 = .ok (.istore 4, 2) := by decide +kernel
theorem dX9_behind_33 : decode cX9_behind 33 = .ok (.iload 4, 2) := by decide +kernel
theorem dX9_behind_35 : decode cX9_behind 35 = .ok (.ifCond .eq 10, 3) := by decide +kernel
theorem dX9_behind_38 : decode cX9_behind 38 = .ok (.aload_n 0, 1) := by decide +kernel
theorem dX9_behind_39 : decode cX9_behind 39 = .ok (.iload 4, 2) := by decide +kernel
theorem dX9_behind_41 : decode cX9_behind 41 = .ok (.invokevirtual 136, 3) := by decide +kernel
theorem dX9_behind_44 : decode cX9_behind 44 = .ok (.ireturn, 1) := by decide +kernel
theorem dX9_behind_45 : decode cX9_behind 45 = .ok (.aload_n 0, 1) := by decide +kernel
theorem dX9_behind_46 : decode cX9_behind 46 = .ok (.aload_n 0, 1) := by decide +kernel
theorem dX9_behind_47 : decode cX9_behind 47 = .ok (.getfield 105, 3) := by decide +kernel
theorem dX9_behind_50 : decode cX9_behind 50 = .ok (.iconst 0, 1) := by decide +kernel
theorem dX9_behind_51 : decode cX9_behind 51 = .ok (.invokevirtual 247, 3) := by decide +kernel
theorem dX9_behind_54 : decode cX9_behind 54 = .ok (.aload_n 0, 1) := by decide +kernel
theorem dX9_behind_55 : decode cX9_behind 55 = .ok (.iload_n 1, 1) := by decide +kernel
theorem dX9_behind_56 : decode cX9_behind 56 = .ok (.iload_n 2, 1) := by decide +kernel
theorem dX9_behind_57 : decode cX9_behind 57 = .ok (.invokevirtual 296, 3) := by decide +kernel
theorem dX9_behind_60 : decode cX9_behind 60 = .ok (.istore 5, 2) := by decide +kernel
theorem dX9_behind_62 : decode cX9_behind 62 = .ok (.aload_n 0, 1) := by decide +kernel
theorem dX9_behind_63 : decode cX9_behind 63 = .ok (.iload_n 3, 1) := by decide +kernel
theorem dX9_behind_64 : decode cX9_behind 64 = .ok (.invokevirtual 302, 3) := by decide +kernel
theorem dX9_behind_67 : decode cX9_behind 67 = .ok (.istore 6, 2) := by decide +kernel
theorem dX9_behind_69 : decode cX9_behind 69 = .ok (.aload_n 0, 1) := by decide +kernel
theorem dX9_behind_70 : decode cX9_behind 70 = .ok (.aload_n 0, 1) := by decide +kernel
theorem dX9_behind_71 : decode cX9_behind 71 = .ok (.getfield 105, 3) := by decide +kernel
theorem dX9_behind_74 : decode cX9_behind 74 = .ok (.iconst 1, 1) := by decide +kernel
theorem dX9_behind_75 : decode cX9_behind 75 = .ok (.invokevirtual 247, 3) := by decide +kernel
theorem dX9_behind_78 : decode cX9_behind 78 = .ok (.iload 5, 2) := by decide +kernel
theorem dX9_behind_80 : decode cX9_behind 80 = .ok (.iconst (-1), 1) := by decide +kernel
theorem dX9_behind_81 : decode cX9_behind 81 = .ok (.if_icmp .ne 8, 3) := by decide +kernel
theorem dX9_behind_84 : decode cX9_behind 84 = .ok (.iload 6, 2) := by decide +kernel
theorem dX9_behind_86 : decode cX9_behind 86 = .ok (.goto 9, 3) := by decide +kernel
theorem dX9_behind_89 : decode cX9_behind 89 = .ok (.aload_n 0, 1) := by decide +kernel
theorem dX9_behind_90 : decode cX9_behind 90 = .ok (.bipush (-6), 2) := by decide +kernel
theorem dX9_behind_92 : decode cX9_behind 92 = .ok (.invokevirtual 136, 3) := by decide +kernel
theorem dX9_behind_95 : decode cX9_behind 95 = .ok (.ireturn, 1) := by decide +kernel
theorem dX9_done_0 : decode cX9_done 0 = .ok (.aload_n 0, 1) := by decide +kernel
theorem dX9_done_1 : decode cX9_done 1 = .ok (.iload_n 1, 1) := by decide +kernel
theorem dX9_done_2 : decode cX9_done 2 = .ok (.iload_n 2, 1) := by decide +kernel
theorem dX9_done_3 : decode cX9_done 3 = .ok (.invokevirtual 293, 3) := by decide +kernel
theorem dX9_done_6 : decode cX9_done 6 = .ok (.istore_n 3, 1) := by decide +kernel
theorem dX9_done_7 : decode cX9_done 7 = .ok (.iload_n 3, 1) := by decide +kernel
theorem dX9_done_8 : decode cX9_done 8 = .ok (.ifCond .eq 9, 3) := by decide +kernel
theorem dX9_done_11 : decode cX9_done 11 = .ok (.aload_n 0, 1) := by decide +kernel
theorem dX9_done_12 : decode cX9_done 12 = .ok (.iload_n 3, 1) := by decide +kernel
theorem dX9_done_13 : decode cX9_done 13 = .ok (.invokevirtual 136, 3) := by decide +kernel
theorem dX9_done_16 : decode cX9_done 16 = .ok (.ireturn, 1) := by decide +kernel
theorem dX9_done_17 : decode cX9_done 17 = .ok (.aload_n 0, 1) := by decide +kernel
theorem dX9_done_18 : decode cX9_done 18 = .ok (.aload_n 0, 1) := by decide +kernel
theorem dX9_done_19 : decode cX9_done 19 = .ok (.getfield 105, 3) := by decide +kernel
theorem dX9_done_22 : decode cX9_done 22 = .ok (.iconst 0, 1) := by decide +kernel
theorem dX9_done_23 : decode cX9_done 23 = .ok (.invokevirtual 247, 3) := by decide +kernel
theorem dX9_done_26 : decode cX9_done 26 = .ok (.aload_n 0, 1) := by decide +kernel
theorem dX9_done_27 : decode cX9_done 27 = .ok (.iload_n 1, 1) := by decide +kernel
theorem dX9_done_28 : decode cX9_done 28 = .ok (.iload_n 2, 1) := by decide +kernel
theorem dX9_done_29 : decode cX9_done 29 = .ok (.invokevirtual 296, 3) := by decide +kernel
theorem dX9_done_32 : decode cX9_done 32 = .ok (.iconst (-1), 1) := by decide +kernel
theorem dX9_done_33 : decode cX9_done 33 = .ok (.if_icmp .ne 8, 3) := by decide +kernel
theorem dX9_done_36 : decode cX9_done 36 = .ok (.aload_n 0, 1) := by decide +kernel
theorem dX9_done_37 : decode cX9_done 37 = .ok (.getfield 235, 3) := by decide +kernel
theorem dX9_done_40 : decode cX9_done 40 = .ok (.ireturn, 1) := by decide +kernel
theorem dX9_done_41 : decode cX9_done 41 = .ok (.aload_n 0, 1) := by decide +kernel
theorem dX9_done_42 : decode cX9_done 42 = .ok (.aload_n 0, 1) := by decide +kernel
theorem dX9_done_43 : decode cX9_done 43 = .ok (.getfield 105, 3) := by decide +kernel
theorem dX9_done_46 : decode cX9_done 46 = .ok (.iconst 1, 1) := by decide +kernel
theorem dX9_done_47 : decode cX9_done 47 = .ok (.invokevirtual 247, 3) := by decide +kernel
theorem dX9_done_50 : decode cX9_done 50 = .ok (.aload_n 0, 1) := by decide +kernel
theorem dX9_done_51 : decode cX9_done 51 = .ok (.bipush (-6), 2) := by decide +kernel
theorem dX9_done_53 : decode cX9_done 53 = .ok (.invokevirtual 136, 3) := by decide +kernel
theorem dX9_done_56 : decode cX9_done 56 = .ok (.ireturn, 1) := by decide +kernel
theorem dX9_mend_0 : decode cX9_mend 0 = .ok (.aload_n 0, 1) := by decide +kernel
theorem dX9_mend_1 : decode cX9_mend 1 = .ok (.iload_n 1, 1) := by decide +kernel
theorem dX9_mend_2 : decode cX9_mend 2 = .ok (.invokevirtual 140, 3) := by decide +kernel
theorem dX9_mend_5 : decode cX9_mend 5 = .ok (.ifCond .eq 11, 3) := by decide +kernel
theorem dX9_mend_8 : decode cX9_mend 8 = .ok (.aload_n 0, 1) := by decide +kernel
theorem dX9_mend_9 : decode cX9_mend 9 = .ok (.iload_n 2, 1) := by decide +kernel
theorem dX9_mend_10 : decode cX9_mend 10 = .ok (.invokevirtual 184, 3) := by decide +kernel
theorem dX9_mend_13 : decode cX9_mend 13 = .ok (.ifCond .ne 9, 3) := by decide +kernel
theorem dX9_mend_16 : decode cX9_mend 16 = .ok (.aload_n 0, 1) := by decide +kernel
theorem dX9_mend_17 : decode cX9_mend 17 = .ok (.iconst (-1), 1) := by decide +kernel
theorem dX9_mend_18 : decode cX9_mend 18 = .ok (.invokevirtual 136, 3) := by decide +kernel
theorem dX9_mend_21 : decode cX9_mend 21 = .ok (.ireturn, 1) := by decide +kernel
theorem dX9_mend_22 : decode cX9_mend 22 = .ok (.aload_n 0, 1) := by decide +kernel
theorem dX9_mend_23 : decode cX9_mend 23 = .ok (.iload_n 3, 1) := by decide +kernel
theorem dX9_mend_24 : decode cX9_mend 24 = .ok (.iconst 0, 1) := by decide +kernel
theorem dX9_mend_25 : decode cX9_mend 25 = .ok (.iconst 1, 1) := by decide +kernel
theorem dX9_mend_26 : decode cX9_mend 26 = .ok (.invokevirtual 172, 3) := by decide +kernel
theorem dX9_mend_29 : decode cX9_mend 29 = .ok (.ifCond .eq 13, 3) := by decide +kernel
theorem dX9_mend_32 : decode cX9_mend 32 = .ok (.aload_n 0, 1) := by decide +kernel
theorem dX9_mend_33 : decode cX9_mend 33 = .ok (.iload_n 1, 1) := by decide +kernel
theorem dX9_mend_34 : decode cX9_mend 34 = .ok (.iload_n 2, 1) := by decide +kernel
theorem dX9_mend_35 : decode cX9_mend 35 = .ok (.iload_n 3, 1) := by decide +kernel
theorem dX9_mend_36 : decode cX9_mend 36 = .ok (.invokevirtual 286, 3) := by decide +kernel
theorem dX9_mend_39 : decode cX9_mend 39 = .ok (.ifCond .ne 10, 3) := by decide +kernel
theorem dX9_mend_42 : decode cX9_mend 42 = .ok (.aload_n 0, 1) := by decide +kernel
theorem dX9_mend_43 : decode cX9_mend 43 = .ok (.bipush (-6), 2) := by decide +kernel
theorem dX9_mend_45 : decode cX9_mend 45 = .ok (.invokevirtual 136, 3) := by decide +kernel
theorem dX9_mend_48 : decode cX9_mend 48 = .ok (.ireturn, 1) := by decide +kernel
theorem dX9_mend_49 : decode cX9_mend 49 = .ok (.aload_n 0, 1) := by decide +kernel
theorem dX9_mend_50 : decode cX9_mend 50 = .ok (.iload_n 1, 1) := by decide +kernel
theorem dX9_mend_51 : decode cX9_mend 51 = .ok (.iload_n 2, 1) := by decide +kernel
theorem dX9_mend_52 : decode cX9_mend 52 = .ok (.iload_n 3, 1) := by decide +kernel
theorem dX9_mend_53 : decode cX9_mend 53 = .ok (.invokevirtual 289, 3) := by decide +kernel
theorem dX9_mend_56 : decode cX9_mend 56 = .ok (.aload_n 0, 1) := by decide +kernel
theorem dX9_mend_57 : decode cX9_mend 57 = .ok (.getfield 238, 3) := by decide +kernel
theorem dX9_mend_60 : decode cX9_mend 60 = .ok (.ireturn, 1) := by decide +kernel
theorem dX9_off_0 : decode cX9_off 0 = .ok (.aload_n 0, 1) := by decide +kernel
theorem dX9_off_1 : decode cX9_off 1 = .ok (.iload_n 1, 1) := by decide +kernel
theorem dX9_off_2 : decode cX9_off 2 = .ok (.invokevirtual 140, 3) := by decide +kernel
theorem dX9_off_5 : decode cX9_off 5 = .ok (.ifCond .ne 9, 3) := by decide +kernel
theorem dX9_off_8 : decode cX9_off 8 = .ok (.aload_n 0, 1) := by decide +kernel
theorem dX9_off_9 : decode cX9_off 9 = .ok (.iconst (-1), 1) := by decide +kernel
theorem dX9_off_10 : decode cX9_off 10 = .ok (.invokevirtual 136, 3) := by decide +kernel
theorem dX9_off_13 : decode cX9_off 13 = .ok (.ireturn, 1) := by decide +kernel
theorem dX9_off_14 : decode cX9_off 14 = .ok (.aload_n 0, 1) := by decide +kernel
theorem dX9_off_15 : decode cX9_off 15 = .ok (.getfield 38, 3) := by decide +kernel
theorem dX9_off_18 : decode cX9_off 18 = .ok (.iload_n 1, 1) := by decide +kernel
theorem dX9_off_19 : decode cX9_off 19 = .ok (.iaload, 1) := by decide +kernel
theorem dX9_off_20 : decode cX9_off 20 = .ok (.bipush 99, 2) := by decide +kernel
theorem dX9_off_22 : decode cX9_off 22 = .ok (.if_icmp .ne 10, 3) := by decide +kernel
theorem dX9_off_25 : decode cX9_off 25 = .ok (.aload_n 0, 1) := by decide +kernel
theorem dX9_off_26 : decode cX9_off 26 = .ok (.bipush (-6), 2) := by decide +kernel
theorem dX9_off_28 : decode cX9_off 28 = .ok (.invokevirtual 136, 3) := by decide +kernel
theorem dX9_off_31 : decode cX9_off 31 = .ok (.ireturn, 1) := by decide +kernel
theorem dX9_off_32 : decode cX9_off 32 = .ok (.aload_n 0, 1) := by decide +kernel
theorem dX9_off_33 : decode cX9_off 33 = .ok (.getfield 38, 3) := by decide +kernel
theorem dX9_off_36 : decode cX9_off 36 = .ok (.iload_n 1, 1) := by decide +kernel
theorem dX9_off_37 : decode cX9_off 37 = .ok (.iaload, 1) := by decide +kernel
theorem dX9_off_38 : decode cX9_off 38 = .ok (.istore_n 2, 1) := by decide +kernel
theorem dX9_off_39 : decode cX9_off 39 = .ok (.aload_n 0, 1) := by decide +kernel
theorem dX9_off_40 : decode cX9_off 40 = .ok (.getfield 38, 3) := by decide +kernel
theorem dX9_off_43 : decode cX9_off 43 = .ok (.iload_n 1, 1) := by decide +kernel
theorem dX9_off_44 : decode cX9_off 44 = .ok (.bipush 99, 2) := by decide +kernel
theorem dX9_off_46 : decode cX9_off 46 = .ok (.iastore, 1) := by decide +kernel
theorem dX9_off_47 : decode cX9_off 47 = .ok (.iload_n 2, 1) := by decide +kernel
theorem dX9_off_48 : decode cX9_off 48 = .ok (.ireturn, 1) := by decide +kernel
theorem dX9_draw_0 : decode cX9_draw 0 = .ok (.aload_n 0, 1) := by decide +kernel
theorem dX9_draw_1 : decode cX9_draw 1 = .ok (.aload_n 0, 1) := by decide +kernel
theorem dX9_draw_2 : decode cX9_draw 2 = .ok (.getfield 7, 3) := by decide +kernel
theorem dX9_draw_5 : decode cX9_draw 5 = .ok (.ldc_w 305, 3) := by decide +kernel
theorem dX9_draw_8 : decode cX9_draw 8 = .ok (.imul, 1) := by decide +kernel
theorem dX9_draw_9 : decode cX9_draw 9 = .ok (.sipush 12345, 3) := by decide +kernel
theorem dX9_draw_12 : decode cX9_draw 12 = .ok (.iadd, 1) := by decide +kernel
theorem dX9_draw_13 : decode cX9_draw 13 = .ok (.putfield 7, 3) := by decide +kernel
theorem dX9_draw_16 : decode cX9_draw 16 = .ok (.aload_n 0, 1) := by decide +kernel
theorem dX9_draw_17 : decode cX9_draw 17 = .ok (.getfield 7, 3) := by decide +kernel
theorem dX9_draw_20 : decode cX9_draw 20 = .ok (.bipush 16, 2) := by decide +kernel
theorem dX9_draw_22 : decode cX9_draw 22 = .ok (.iushr, 1) := by decide +kernel
theorem dX9_draw_23 : decode cX9_draw 23 = .ok (.iload_n 1, 1) := by decide +kernel
theorem dX9_draw_24 : decode cX9_draw 24 = .ok (.irem, 1) := by decide +kernel
theorem dX9_draw_25 : decode cX9_draw 25 = .ok (.ireturn, 1) := by decide +kernel
theorem dX9_days_0 : decode cX9_days 0 = .ok (.aload_n 0, 1) := by decide +kernel
theorem dX9_days_1 : decode cX9_days 1 = .ok (.getfield 126, 3) := by decide +kernel
theorem dX9_days_4 : decode cX9_days 4 = .ok (.ifCond .eq 10, 3) := by decide +kernel
theorem dX9_days_7 : decode cX9_days 7 = .ok (.aload_n 0, 1) := by decide +kernel
theorem dX9_days_8 : decode cX9_days 8 = .ok (.getfield 129, 3) := by decide +kernel
theorem dX9_days_11 : decode cX9_days 11 = .ok (.ifCond .ne 10, 3) := by decide +kernel
theorem dX9_days_14 : decode cX9_days 14 = .ok (.aload_n 0, 1) := by decide +kernel
theorem dX9_days_15 : decode cX9_days 15 = .ok (.bipush (-5), 2) := by decide +kernel
theorem dX9_days_17 : decode cX9_days 17 = .ok (.invokevirtual 136, 3) := by decide +kernel
theorem dX9_days_20 : decode cX9_days 20 = .ok (.ireturn, 1) := by decide +kernel
theorem dX9_days_21 : decode cX9_days 21 = .ok (.aload_n 0, 1) := by decide +kernel
theorem dX9_days_22 : decode cX9_days 22 = .ok (.iload_n 1, 1) := by decide +kernel
theorem dX9_days_23 : decode cX9_days 23 = .ok (.iconst 1, 1) := by decide +kernel
theorem dX9_days_24 : decode cX9_days 24 = .ok (.bipush 60, 2) := by decide +kernel
theorem dX9_days_26 : decode cX9_days 26 = .ok (.invokevirtual 172, 3) := by decide +kernel
theorem dX9_days_29 : decode cX9_days 29 = .ok (.ifCond .ne 10, 3) := by decide +kernel
theorem dX9_days_32 : decode cX9_days 32 = .ok (.aload_n 0, 1) := by decide +kernel
theorem dX9_days_33 : decode cX9_days 33 = .ok (.bipush (-6), 2) := by decide +kernel
theorem dX9_days_35 : decode cX9_days 35 = .ok (.invokevirtual 136, 3) := by decide +kernel
theorem dX9_days_38 : decode cX9_days 38 = .ok (.ireturn, 1) := by decide +kernel
theorem dX9_days_39 : decode cX9_days 39 = .ok (.iconst 0, 1) := by decide +kernel
theorem dX9_days_40 : decode cX9_days 40 = .ok (.istore_n 2, 1) := by decide +kernel
theorem dX9_days_41 : decode cX9_days 41 = .ok (.iload_n 2, 1) := by decide +kernel
theorem dX9_days_42 : decode cX9_days 42 = .ok (.iload_n 1, 1) := by decide +kernel
theorem dX9_days_43 : decode cX9_days 43 = .ok (.if_icmp .ge 131, 3) := by decide +kernel
theorem dX9_days_46 : decode cX9_days 46 = .ok (.iconst 0, 1) := by decide +kernel
theorem dX9_days_47 : decode cX9_days 47 = .ok (.istore_n 3, 1) := by decide +kernel
theorem dX9_days_48 : decode cX9_days 48 = .ok (.iload_n 3, 1) := by decide +kernel
theorem dX9_days_49 : decode cX9_days 49 = .ok (.aload_n 0, 1) := by decide +kernel
theorem dX9_days_50 : decode cX9_days 50 = .ok (.getfield 129, 3) := by decide +kernel
theorem dX9_days_53 : decode cX9_days 53 = .ok (.if_icmp .ge 30, 3) := by decide +kernel
theorem dX9_days_56 : decode cX9_days 56 = .ok (.aload_n 0, 1) := by decide +kernel
theorem dX9_days_57 : decode cX9_days 57 = .ok (.getfield 62, 3) := by decide +kernel
theorem dX9_days_60 : decode cX9_days 60 = .ok (.iload_n 3, 1) := by decide +kernel
theorem dX9_days_61 : decode cX9_days 61 = .ok (.iaload, 1) := by decide +kernel
theorem dX9_days_62 : decode cX9_days 62 = .ok (.bipush 99, 2) := by decide +kernel
theorem dX9_days_64 : decode cX9_days 64 = .ok (.if_icmp .ge 13, 3) := by decide +kernel
theorem dX9_days_67 : decode cX9_days 67 = .ok (.aload_n 0, 1) := by decide +kernel
theorem dX9_days_68 : decode cX9_days 68 = .ok (.getfield 62, 3) := by decide +kernel
theorem dX9_days_71 : decode cX9_days 71 = .ok (.iload_n 3, 1) := by decide +kernel
theorem dX9_days_72 : decode cX9_days 72 = .ok (.dup2, 1) := by decide +kernel
theorem dX9_days_73 : decode cX9_days 73 = .ok (.iaload, 1) := by decide +kernel
theorem dX9_days_74 : decode cX9_days 74 = .ok (.iconst 1, 1) := by decide +kernel
theorem dX9_days_75 : decode cX9_days 75 = .ok (.iadd, 1) := by decide +kernel
theorem dX9_days_76 : decode cX9_days 76 = .ok (.iastore, 1) := by decide +kernel
theorem dX9_days_77 : decode cX9_days 77 = .ok (.iinc 3 1, 3) := by decide +kernel
theorem dX9_days_80 : decode cX9_days 80 = .ok (.goto (-32), 3) := by decide +kernel
theorem dX9_days_83 : decode cX9_days 83 = .ok (.aload_n 0, 1) := by decide +kernel
theorem dX9_days_84 : decode cX9_days 84 = .ok (.dup, 1) := by decide +kernel
theorem dX9_days_85 : decode cX9_days 85 = .ok (.getfield 241, 3) := by decide +kernel
theorem dX9_days_88 : decode cX9_days 88 = .ok (.iconst 1, 1) := by decide +kernel
theorem dX9_days_89 : decode cX9_days 89 = .ok (.iadd, 1) := by decide +kernel
theorem dX9_days_90 : decode cX9_days 90 = .ok (.putfield 241, 3) := by decide +kernel
theorem dX9_days_93 : decode cX9_days 93 = .ok (.aload_n 0, 1) := by decide +kernel
theorem dX9_days_94 : decode cX9_days 94 = .ok (.aload_n 0, 1) := by decide +kernel
theorem dX9_days_95 : decode cX9_days 95 = .ok (.getfield 126, 3) := by decide +kernel
theorem dX9_days_98 : decode cX9_days 98 = .ok (.invokevirtual 306, 3) := by decide +kernel
theorem dX9_days_101 : decode cX9_days 101 = .ok (.istore_n 3, 1) := by decide +kernel
theorem dX9_days_102 : decode cX9_days 102 = .ok (.aload_n 0, 1) := by decide +kernel
theorem dX9_days_103 : decode cX9_days 103 = .ok (.aload_n 0, 1) := by decide +kernel
theorem dX9_days_104 : decode cX9_days 104 = .ok (.getfield 129, 3) := by decide +kernel
theorem dX9_days_107 : decode cX9_days 107 = .ok (.invokevirtual 306, 3) := by decide +kernel
theorem dX9_days_110 : decode cX9_days 110 = .ok (.istore 4, 2) := by decide +kernel
theorem dX9_days_112 : decode cX9_days 112 = .ok (.aload_n 0, 1) := by decide +kernel
theorem dX9_days_113 : decode cX9_days 113 = .ok (.iconst 2, 1) := by decide +kernel
theorem dX9_days_114 : decode cX9_days 114 = .ok (.invokevirtual 306, 3) := by decide +kernel
theorem dX9_days_117 : decode cX9_days 117 = .ok (.istore 5, 2) := by decide +kernel
theorem dX9_days_119 : decode cX9_days 119 = .ok (.aload_n 0, 1) := by decide +kernel
theorem dX9_days_120 : decode cX9_days 120 = .ok (.iload_n 3, 1) := by decide +kernel
theorem dX9_days_121 : decode cX9_days 121 = .ok (.iload 4, 2) := by decide +kernel
theorem dX9_days_123 : decode cX9_days 123 = .ok (.iload 5, 2) := by decide +kernel
theorem dX9_days_125 : decode cX9_days 125 = .ok (.invokevirtual 286, 3) := by decide +kernel
theorem dX9_days_128 : decode cX9_days 128 = .ok (.ifCond .eq 15, 3) := by decide +kernel
theorem dX9_days_131 : decode cX9_days 131 = .ok (.aload_n 0, 1) := by decide +kernel
theorem dX9_days_132 : decode cX9_days 132 = .ok (.iload_n 3, 1) := by decide +kernel
theorem dX9_days_133 : decode cX9_days 133 = .ok (.iload 4, 2) := by decide +kernel
theorem dX9_days_135 : decode cX9_days 135 = .ok (.iload 5, 2) := by decide +kernel
theorem dX9_days_137 : decode cX9_days 137 = .ok (.invokevirtual 289, 3) := by decide +kernel
theorem dX9_days_140 : decode cX9_days 140 = .ok (.goto 28, 3) := by decide +kernel
theorem dX9_days_143 : decode cX9_days 143 = .ok (.aload_n 0, 1) := by decide +kernel
theorem dX9_days_144 : decode cX9_days 144 = .ok (.getfield 38, 3) := by decide +kernel
theorem dX9_days_147 : decode cX9_days 147 = .ok (.iload_n 3, 1) := by decide +kernel
theorem dX9_days_148 : decode cX9_days 148 = .ok (.iaload, 1) := by decide +kernel
theorem dX9_days_149 : decode cX9_days 149 = .ok (.bipush 10, 2) := by decide +kernel
theorem dX9_days_151 : decode cX9_days 151 = .ok (.iload 4, 2) := by decide +kernel
theorem dX9_days_153 : decode cX9_days 153 = .ok (.imul, 1) := by decide +kernel
theorem dX9_days_154 : decode cX9_days 154 = .ok (.iload 5, 2) := by decide +kernel
theorem dX9_days_156 : decode cX9_days 156 = .ok (.iadd, 1) := by decide +kernel
theorem dX9_days_157 : decode cX9_days 157 = .ok (.if_icmp .ne 11, 3) := by decide +kernel
theorem dX9_days_160 : decode cX9_days 160 = .ok (.aload_n 0, 1) := by decide +kernel
theorem dX9_days_161 : decode cX9_days 161 = .ok (.getfield 38, 3) := by decide +kernel
theorem dX9_days_164 : decode cX9_days 164 = .ok (.iload_n 3, 1) := by decide +kernel
theorem dX9_days_165 : decode cX9_days 165 = .ok (.bipush 99, 2) := by decide +kernel
theorem dX9_days_167 : decode cX9_days 167 = .ok (.iastore, 1) := by decide +kernel
theorem dX9_days_168 : decode cX9_days 168 = .ok (.iinc 2 1, 3) := by decide +kernel
theorem dX9_days_171 : decode cX9_days 171 = .ok (.goto (-130), 3) := by decide +kernel
theorem dX9_days_174 : decode cX9_days 174 = .ok (.aload_n 0, 1) := by decide +kernel
theorem dX9_days_175 : decode cX9_days 175 = .ok (.getfield 235, 3) := by decide +kernel
theorem dX9_days_178 : decode cX9_days 178 = .ok (.ireturn, 1) := by decide +kernel
theorem dX9_seed_0 : decode cX9_seed 0 = .ok (.aload_n 0, 1) := by decide +kernel
theorem dX9_seed_1 : decode cX9_seed 1 = .ok (.getfield 7, 3) := by decide +kernel
theorem dX9_seed_4 : decode cX9_seed 4 = .ok (.istore_n 2, 1) := by decide +kernel
theorem dX9_seed_5 : decode cX9_seed 5 = .ok (.aload_n 0, 1) := by decide +kernel
theorem dX9_seed_6 : decode cX9_seed 6 = .ok (.iload_n 1, 1) := by decide +kernel
theorem dX9_seed_7 : decode cX9_seed 7 = .ok (.putfield 7, 3) := by decide +kernel
theorem dX9_seed_10 : decode cX9_seed 10 = .ok (.iload_n 2, 1) := by decide +kernel
theorem dX9_seed_11 : decode cX9_seed 11 = .ok (.ireturn, 1) := by decide +kernel
theorem dX9_body_0 : decode cX9_body 0 = .ok (.aload_n 0, 1) := by decide +kernel
theorem dX9_body_1 : decode cX9_body 1 = .ok (.getfield 309, 3) := by decide +kernel
theorem dX9_body_4 : decode cX9_body 4 = .ok (.bipush 20, 2) := by decide +kernel
theorem dX9_body_6 : decode cX9_body 6 = .ok (.if_icmp .ge 13, 3) := by decide +kernel
theorem dX9_body_9 : decode cX9_body 9 = .ok (.aload_n 0, 1) := by decide +kernel
theorem dX9_body_10 : decode cX9_body 10 = .ok (.getfield 123, 3) := by decide +kernel
theorem dX9_body_13 : decode cX9_body 13 = .ok (.aload_n 0, 1) := by decide +kernel
theorem dX9_body_14 : decode cX9_body 14 = .ok (.getfield 309, 3) := by decide +kernel
theorem dX9_body_17 : decode cX9_body 17 = .ok (.iload_n 1, 1) := by decide +kernel
theorem dX9_body_18 : decode cX9_body 18 = .ok (.iastore, 1) := by decide +kernel
theorem dX9_body_19 : decode cX9_body 19 = .ok (.aload_n 0, 1) := by decide +kernel
theorem dX9_body_20 : decode cX9_body 20 = .ok (.dup, 1) := by decide +kernel
theorem dX9_body_21 : decode cX9_body 21 = .ok (.getfield 309, 3) := by decide +kernel
theorem dX9_body_24 : decode cX9_body 24 = .ok (.iconst 1, 1) := by decide +kernel
theorem dX9_body_25 : decode cX9_body 25 = .ok (.iadd, 1) := by decide +kernel
theorem dX9_body_26 : decode cX9_body 26 = .ok (.putfield 309, 3) := by decide +kernel
theorem dX9_body_29 : decode cX9_body 29 = .ok (.return_, 1) := by decide +kernel
theorem dX9_bending_0 : decode cX9_bending 0 = .ok (.aload_n 0, 1) := by decide +kernel
theorem dX9_bending_1 : decode cX9_bending 1 = .ok (.getfield 20, 3) := by decide +kernel
theorem dX9_bending_4 : decode cX9_bending 4 = .ok (.iload_n 1, 1) := by decide +kernel
theorem dX9_bending_5 : decode cX9_bending 5 = .ok (.iaload, 1) := by decide +kernel
theorem dX9_bending_6 : decode cX9_bending 6 = .ok (.istore_n 3, 1) := by decide +kernel
theorem dX9_bending_7 : decode cX9_bending 7 = .ok (.iload_n 2, 1) := by decide +kernel
theorem dX9_bending_8 : decode cX9_bending 8 = .ok (.istore 4, 2) := by decide +kernel
theorem dX9_bending_10 : decode cX9_bending 10 = .ok (.aload_n 0, 1) := by decide +kernel
theorem dX9_bending_11 : decode cX9_bending 11 = .ok (.iload_n 3, 1) := by decide +kernel
theorem dX9_bending_12 : decode cX9_bending 12 = .ok (.iconst 3, 1) := by decide +kernel
theorem dX9_bending_13 : decode cX9_bending 13 = .ok (.invokevirtual 143, 3) := by decide +kernel
theorem dX9_bending_16 : decode cX9_bending 16 = .ok (.istore 5, 2) := by decide +kernel
theorem dX9_bending_18 : decode cX9_bending 18 = .ok (.aload_n 0, 1) := by decide +kernel
theorem dX9_bending_19 : decode cX9_bending 19 = .ok (.iload_n 3, 1) := by decide +kernel
theorem dX9_bending_20 : decode cX9_bending 20 = .ok (.iconst 1, 1) := by decide +kernel
theorem dX9_bending_21 : decode cX9_bending 21 = .ok (.invokevirtual 143, 3) := by decide +kernel
theorem dX9_bending_24 : decode cX9_bending 24 = .ok (.istore 6, 2) := by decide +kernel
theorem dX9_bending_26 : decode cX9_bending 26 = .ok (.iload_n 3, 1) := by decide +kernel
theorem dX9_bending_27 : decode cX9_bending 27 = .ok (.bipush 6, 2) := by decide +kernel
theorem dX9_bending_29 : decode cX9_bending 29 = .ok (.if_icmp .ne 9, 3) := by decide +kernel
theorem dX9_bending_32 : decode cX9_bending 32 = .ok (.aload_n 0, 1) := by decide +kernel
theorem dX9_bending_33 : decode cX9_bending 33 = .ok (.bipush 70, 2) := by decide +kernel
theorem dX9_bending_35 : decode cX9_bending 35 = .ok (.invokevirtual 312, 3) := by decide +kernel
theorem dX9_bending_38 : decode cX9_bending 38 = .ok (.iload 5, 2) := by decide +kernel
theorem dX9_bending_40 : decode cX9_bending 40 = .ok (.ifCond .eq 14, 3) := by decide +kernel
theorem dX9_bending_43 : decode cX9_bending 43 = .ok (.aload_n 0, 1) := by decide +kernel
theorem dX9_bending_44 : decode cX9_bending 44 = .ok (.bipush 40, 2) := by decide +kernel
theorem dX9_bending_46 : decode cX9_bending 46 = .ok (.invokevirtual 312, 3) := by decide +kernel
theorem dX9_bending_49 : decode cX9_bending 49 = .ok (.iload_n 2, 1) := by decide +kernel
theorem dX9_bending_50 : decode cX9_bending 50 = .ok (.iconst 1, 1) := by decide +kernel
theorem dX9_bending_51 : decode cX9_bending 51 = .ok (.iadd, 1) := by decide +kernel
theorem dX9_bending_52 : decode cX9_bending 52 = .ok (.istore 4, 2) := by decide +kernel
theorem dX9_bending_54 : decode cX9_bending 54 = .ok (.iload 6, 2) := by decide +kernel
theorem dX9_bending_56 : decode cX9_bending 56 = .ok (.ifCond .eq 9, 3) := by decide +kernel
theorem dX9_bending_59 : decode cX9_bending 59 = .ok (.aload_n 0, 1) := by decide +kernel
theorem dX9_bending_60 : decode cX9_bending 60 = .ok (.bipush 20, 2) := by decide +kernel
theorem dX9_bending_62 : decode cX9_bending 62 = .ok (.invokevirtual 312, 3) := by decide +kernel
theorem dX9_bending_65 : decode cX9_bending 65 = .ok (.iload_n 3, 1) := by decide +kernel
theorem dX9_bending_66 : decode cX9_bending 66 = .ok (.iconst 4, 1) := by decide +kernel
theorem dX9_bending_67 : decode cX9_bending 67 = .ok (.if_icmp .ne 9, 3) := by decide +kernel
theorem dX9_bending_70 : decode cX9_bending 70 = .ok (.aload_n 0, 1) := by decide +kernel
theorem dX9_bending_71 : decode cX9_bending 71 = .ok (.bipush 51, 2) := by decide +kernel
theorem dX9_bending_73 : decode cX9_bending 73 = .ok (.invokevirtual 312, 3) := by decide +kernel
theorem dX9_bending_76 : decode cX9_bending 76 = .ok (.aload_n 0, 1) := by decide +kernel
theorem dX9_bending_77 : decode cX9_bending 77 = .ok (.bipush 10, 2) := by decide +kernel
theorem dX9_bending_79 : decode cX9_bending 79 = .ok (.invokevirtual 312, 3) := by decide +kernel
theorem dX9_bending_82 : decode cX9_bending 82 = .ok (.iload 4, 2) := by decide +kernel
theorem dX9_bending_84 : decode cX9_bending 84 = .ok (.iload_n 1, 1) := by decide +kernel
theorem dX9_bending_85 : decode cX9_bending 85 = .ok (.iadd, 1) := by decide +kernel
theorem dX9_bending_86 : decode cX9_bending 86 = .ok (.istore 7, 2) := by decide +kernel
theorem dX9_bending_88 : decode cX9_bending 88 = .ok (.iload 6, 2) := by decide +kernel
theorem dX9_bending_90 : decode cX9_bending 90 = .ok (.ifCond .eq 14, 3) := by decide +kernel
theorem dX9_bending_93 : decode cX9_bending 93 = .ok (.iload 7, 2) := by decide +kernel
theorem dX9_bending_95 : decode cX9_bending 95 = .ok (.aload_n 0, 1) := by decide +kernel
theorem dX9_bending_96 : decode cX9_bending 96 = .ok (.getfield 23, 3) := by decide +kernel
theorem dX9_bending_99 : decode cX9_bending 99 = .ok (.iload_n 1, 1) := by decide +kernel
theorem dX9_bending_100 : decode cX9_bending 100 = .ok (.iaload, 1) := by decide +kernel
theorem dX9_bending_101 : decode cX9_bending 101 = .ok (.iadd, 1) := by decide +kernel
theorem dX9_bending_102 : decode cX9_bending 102 = .ok (.istore 7, 2) := by decide +kernel
theorem dX9_bending_104 : decode cX9_bending 104 = .ok (.iload_n 3, 1) := by decide +kernel
theorem dX9_bending_105 : decode cX9_bending 105 = .ok (.iconst 4, 1) := by decide +kernel
theorem dX9_bending_106 : decode cX9_bending 106 = .ok (.if_icmp .ne 9, 3) := by decide +kernel
theorem dX9_bending_109 : decode cX9_bending 109 = .ok (.iload 7, 2) := by decide +kernel
theorem dX9_bending_111 : decode cX9_bending 111 = .ok (.iload_n 1, 1) := by decide +kernel
theorem dX9_bending_112 : decode cX9_bending 112 = .ok (.isub, 1) := by decide +kernel
theorem dX9_bending_113 : decode cX9_bending 113 = .ok (.istore 7, 2) := by decide +kernel
theorem dX9_bending_115 : decode cX9_bending 115 = .ok (.iload_n 3, 1) := by decide +kernel
theorem dX9_bending_116 : decode cX9_bending 116 = .ok (.bipush 6, 2) := by decide +kernel
theorem dX9_bending_118 : decode cX9_bending 118 = .ok (.if_icmp .ne 10, 3) := by decide +kernel
theorem dX9_bending_121 : decode cX9_bending 121 = .ok (.iload 7, 2) := by decide +kernel
theorem dX9_bending_123 : decode cX9_bending 123 = .ok (.iconst 2, 1) := by decide +kernel
theorem dX9_bending_124 : decode cX9_bending 124 = .ok (.imul, 1) := by decide +kernel
theorem dX9_bending_125 : decode cX9_bending 125 = .ok (.goto 5, 3) := by decide +kernel
theorem dX9_bending_128 : decode cX9_bending 128 = .ok (.iload 7, 2) := by decide +kernel
theorem dX9_bending_130 : decode cX9_bending 130 = .ok (.ireturn, 1) := by decide +kernel
theorem dX9_waving_0 : decode cX9_waving 0 = .ok (.aload_n 0, 1) := by decide +kernel
theorem dX9_waving_1 : decode cX9_waving 1 = .ok (.getfield 20, 3) := by decide +kernel
theorem dX9_waving_4 : decode cX9_waving 4 = .ok (.iload_n 1, 1) := by decide +kernel
theorem dX9_waving_5 : decode cX9_waving 5 = .ok (.iaload, 1) := by decide +kernel
theorem dX9_waving_6 : decode cX9_waving 6 = .ok (.istore_n 3, 1) := by decide +kernel
theorem dX9_waving_7 : decode cX9_waving 7 = .ok (.iload_n 2, 1) := by decide +kernel
theorem dX9_waving_8 : decode cX9_waving 8 = .ok (.istore 4, 2) := by decide +kernel
theorem dX9_waving_10 : decode cX9_waving 10 = .ok (.iload_n 3, 1) := by decide +kernel
theorem dX9_waving_11 : decode cX9_waving 11 = .ok (.bipush 6, 2) := by decide +kernel
theorem dX9_waving_13 : decode cX9_waving 13 = .ok (.if_icmp .ne 19, 3) := by decide +kernel
theorem dX9_waving_16 : decode cX9_waving 16 = .ok (.aload_n 0, 1) := by decide +kernel
theorem dX9_waving_17 : decode cX9_waving 17 = .ok (.bipush 71, 2) := by decide +kernel
theorem dX9_waving_19 : decode cX9_waving 19 = .ok (.invokevirtual 312, 3) := by decide +kernel
theorem dX9_waving_22 : decode cX9_waving 22 = .ok (.iload_n 2, 1) := by decide +kernel
theorem dX9_waving_23 : decode cX9_waving 23 = .ok (.aload_n 0, 1) := by decide +kernel
theorem dX9_waving_24 : decode cX9_waving 24 = .ok (.getfield 23, 3) := by decide +kernel
theorem dX9_waving_27 : decode cX9_waving 27 = .ok (.iload_n 1, 1) := by decide +kernel
theorem dX9_waving_28 : decode cX9_waving 28 = .ok (.iaload, 1) := by decide +kernel
theorem dX9_waving_29 : decode cX9_waving 29 = .ok (.isub, 1) := by decide +kernel
theorem dX9_waving_30 : decode cX9_waving 30 = .ok (.istore 4, 2) := by decide +kernel
theorem dX9_waving_32 : decode cX9_waving 32 = .ok (.aload_n 0, 1) := by decide +kernel
theorem dX9_waving_33 : decode cX9_waving 33 = .ok (.iload_n 3, 1) := by decide +kernel
theorem dX9_waving_34 : decode cX9_waving 34 = .ok (.iconst 2, 1) := by decide +kernel
theorem dX9_waving_35 : decode cX9_waving 35 = .ok (.invokevirtual 143, 3) := by decide +kernel
theorem dX9_waving_38 : decode cX9_waving 38 = .ok (.istore 5, 2) := by decide +kernel
theorem dX9_waving_40 : decode cX9_waving 40 = .ok (.iload 5, 2) := by decide +kernel
theorem dX9_waving_42 : decode cX9_waving 42 = .ok (.ifCond .eq 9, 3) := by decide +kernel
theorem dX9_waving_45 : decode cX9_waving 45 = .ok (.aload_n 0, 1) := by decide +kernel
theorem dX9_waving_46 : decode cX9_waving 46 = .ok (.bipush 30, 2) := by decide +kernel
theorem dX9_waving_48 : decode cX9_waving 48 = .ok (.invokevirtual 312, 3) := by decide +kernel
theorem dX9_waving_51 : decode cX9_waving 51 = .ok (.aload_n 0, 1) := by decide +kernel
theorem dX9_waving_52 : decode cX9_waving 52 = .ok (.bipush 11, 2) := by decide +kernel
theorem dX9_waving_54 : decode cX9_waving 54 = .ok (.invokevirtual 312, 3) := by decide +kernel
theorem dX9_waving_57 : decode cX9_waving 57 = .ok (.aload_n 0, 1) := by decide +kernel
theorem dX9_waving_58 : decode cX9_waving 58 = .ok (.iload_n 1, 1) := by decide +kernel
theorem dX9_waving_59 : decode cX9_waving 59 = .ok (.iload 4, 2) := by decide +kernel
theorem dX9_waving_61 : decode cX9_waving 61 = .ok (.invokevirtual 316, 3) := by decide +kernel
theorem dX9_waving_64 : decode cX9_waving 64 = .ok (.iconst 2, 1) := by decide +kernel
theorem dX9_waving_65 : decode cX9_waving 65 = .ok (.imul, 1) := by decide +kernel
theorem dX9_waving_66 : decode cX9_waving 66 = .ok (.istore 6, 2) := by decide +kernel
theorem dX9_waving_68 : decode cX9_waving 68 = .ok (.iload 5, 2) := by decide +kernel
theorem dX9_waving_70 : decode cX9_waving 70 = .ok (.ifCond .eq 10, 3) := by decide +kernel
theorem dX9_waving_73 : decode cX9_waving 73 = .ok (.iload 6, 2) := by decide +kernel
theorem dX9_waving_75 : decode cX9_waving 75 = .ok (.iconst 3, 1) := by decide +kernel
theorem dX9_waving_76 : decode cX9_waving 76 = .ok (.imul, 1) := by decide +kernel
theorem dX9_waving_77 : decode cX9_waving 77 = .ok (.goto 5, 3) := by decide +kernel
theorem dX9_waving_80 : decode cX9_waving 80 = .ok (.iload 6, 2) := by decide +kernel
theorem dX9_waving_82 : decode cX9_waving 82 = .ok (.ireturn, 1) := by decide +kernel
theorem dX9_dropping_0 : decode cX9_dropping 0 = .ok (.aload_n 0, 1) := by decide +kernel
theorem dX9_dropping_1 : decode cX9_dropping 1 = .ok (.getfield 20, 3) := by decide +kernel
theorem dX9_dropping_4 : decode cX9_dropping 4 = .ok (.iload_n 1, 1) := by decide +kernel
theorem dX9_dropping_5 : decode cX9_dropping 5 = .ok (.iaload, 1) := by decide +kernel
theorem dX9_dropping_6 : decode cX9_dropping 6 = .ok (.istore_n 3, 1) := by decide +kernel
theorem dX9_dropping_7 : decode cX9_dropping 7 = .ok (.iload_n 3, 1) := by decide +kernel
theorem dX9_dropping_8 : decode cX9_dropping 8 = .ok (.iconst 5, 1) := by decide +kernel
theorem dX9_dropping_9 : decode cX9_dropping 9 = .ok (.if_icmp .ne 9, 3) := by decide +kernel
theorem dX9_dropping_12 : decode cX9_dropping 12 = .ok (.aload_n 0, 1) := by decide +kernel
theorem dX9_dropping_13 : decode cX9_dropping 13 = .ok (.bipush 60, 2) := by decide +kernel
theorem dX9_dropping_15 : decode cX9_dropping 15 = .ok (.invokevirtual 312, 3) := by decide +kernel
theorem dX9_dropping_18 : decode cX9_dropping 18 = .ok (.iload_n 3, 1) := by decide +kernel
theorem dX9_dropping_19 : decode cX9_dropping 19 = .ok (.iconst 4, 1) := by decide +kernel
theorem dX9_dropping_20 : decode cX9_dropping 20 = .ok (.if_icmp .ne 9, 3) := by decide +kernel
theorem dX9_dropping_23 : decode cX9_dropping 23 = .ok (.aload_n 0, 1) := by decide +kernel
theorem dX9_dropping_24 : decode cX9_dropping 24 = .ok (.bipush 50, 2) := by decide +kernel
theorem dX9_dropping_26 : decode cX9_dropping 26 = .ok (.invokevirtual 312, 3) := by decide +kernel
theorem dX9_dropping_29 : decode cX9_dropping 29 = .ok (.aload_n 0, 1) := by decide +kernel
theorem dX9_dropping_30 : decode cX9_dropping 30 = .ok (.bipush 12, 2) := by decide +kernel
theorem dX9_dropping_32 : decode cX9_dropping 32 = .ok (.invokevirtual 312, 3) := by decide +kernel
theorem dX9_dropping_35 : decode cX9_dropping 35 = .ok (.aload_n 0, 1) := by decide +kernel
theorem dX9_dropping_36 : decode cX9_dropping 36 = .ok (.iload_n 1, 1) := by decide +kernel
theorem dX9_dropping_37 : decode cX9_dropping 37 = .ok (.iload_n 2, 1) := by decide +kernel
theorem dX9_dropping_38 : decode cX9_dropping 38 = .ok (.invokevirtual 319, 3) := by decide +kernel
theorem dX9_dropping_41 : decode cX9_dropping 41 = .ok (.istore 4, 2) := by decide +kernel
theorem dX9_dropping_43 : decode cX9_dropping 43 = .ok (.iload 4, 2) := by decide +kernel
theorem dX9_dropping_45 : decode cX9_dropping 45 = .ok (.aload_n 0, 1) := by decide +kernel
theorem dX9_dropping_46 : decode cX9_dropping 46 = .ok (.iload_n 1, 1) := by decide +kernel
theorem dX9_dropping_47 : decode cX9_dropping 47 = .ok (.iload_n 2, 1) := by decide +kernel
theorem dX9_dropping_48 : decode cX9_dropping 48 = .ok (.aload_n 0, 1) := by decide +kernel
theorem dX9_dropping_49 : decode cX9_dropping 49 = .ok (.getfield 23, 3) := by decide +kernel
theorem dX9_dropping_52 : decode cX9_dropping 52 = .ok (.iload_n 1, 1) := by decide +kernel
theorem dX9_dropping_53 : decode cX9_dropping 53 = .ok (.iaload, 1) := by decide +kernel
theorem dX9_dropping_54 : decode cX9_dropping 54 = .ok (.isub, 1) := by decide +kernel
theorem dX9_dropping_55 : decode cX9_dropping 55 = .ok (.invokevirtual 316, 3) := by decide +kernel
theorem dX9_dropping_58 : decode cX9_dropping 58 = .ok (.ixor, 1) := by decide +kernel
theorem dX9_dropping_59 : decode cX9_dropping 59 = .ok (.istore 4, 2) := by decide +kernel
theorem dX9_dropping_61 : decode cX9_dropping 61 = .ok (.iload_n 3, 1) := by decide +kernel
theorem dX9_dropping_62 : decode cX9_dropping 62 = .ok (.iconst 4, 1) := by decide +kernel
theorem dX9_dropping_63 : decode cX9_dropping 63 = .ok (.if_icmp .ne 9, 3) := by decide +kernel
theorem dX9_dropping_66 : decode cX9_dropping 66 = .ok (.iload 4, 2) := by decide +kernel
theorem dX9_dropping_68 : decode cX9_dropping 68 = .ok (.ineg, 1) := by decide +kernel
theorem dX9_dropping_69 : decode cX9_dropping 69 = .ok (.goto 17, 3) := by decide +kernel
theorem dX9_dropping_72 : decode cX9_dropping 72 = .ok (.iload_n 3, 1) := by decide +kernel
theorem dX9_dropping_73 : decode cX9_dropping 73 = .ok (.iconst 5, 1) := by decide +kernel
theorem dX9_dropping_74 : decode cX9_dropping 74 = .ok (.if_icmp .ne 10, 3) := by decide +kernel
theorem dX9_dropping_77 : decode cX9_dropping 77 = .ok (.iload 4, 2) := by decide +kernel
theorem dX9_dropping_79 : decode cX9_dropping 79 = .ok (.iconst 5, 1) := by decide +kernel
theorem dX9_dropping_80 : decode cX9_dropping 80 = .ok (.ixor, 1) := by decide +kernel
theorem dX9_dropping_81 : decode cX9_dropping 81 = .ok (.goto 5, 3) := by decide +kernel
theorem dX9_dropping_84 : decode cX9_dropping 84 = .ok (.iload 4, 2) := by decide +kernel
theorem dX9_dropping_86 : decode cX9_dropping 86 = .ok (.ireturn, 1) := by decide +kernel
theorem dX9_act_0 : decode cX9_act 0 = .ok (.aload_n 0, 1) := by decide +kernel
theorem dX9_act_1 : decode cX9_act 1 = .ok (.iconst 0, 1) := by decide +kernel
theorem dX9_act_2 : decode cX9_act 2 = .ok (.putfield 309, 3) := by decide +kernel
theorem dX9_act_5 : decode cX9_act 5 = .ok (.aload_n 0, 1) := by decide +kernel
theorem dX9_act_6 : decode cX9_act 6 = .ok (.iload_n 1, 1) := by decide +kernel
theorem dX9_act_7 : decode cX9_act 7 = .ok (.invokevirtual 140, 3) := by decide +kernel
theorem dX9_act_10 : decode cX9_act 10 = .ok (.ifCond .eq 12, 3) := by decide +kernel
theorem dX9_act_13 : decode cX9_act 13 = .ok (.iload_n 2, 1) := by decide +kernel
theorem dX9_act_14 : decode cX9_act 14 = .ok (.ifCond .lt 8, 3) := by decide +kernel
theorem dX9_act_17 : decode cX9_act 17 = .ok (.iload_n 2, 1) := by decide +kernel
theorem dX9_act_18 : decode cX9_act 18 = .ok (.iconst 2, 1) := by decide +kernel
theorem dX9_act_19 : decode cX9_act 19 = .ok (.if_icmp .le 5, 3) := by decide +kernel
theorem dX9_act_22 : decode cX9_act 22 = .ok (.iconst 0, 1) := by decide +kernel
theorem dX9_act_23 : decode cX9_act 23 = .ok (.ireturn, 1) := by decide +kernel
theorem dX9_act_24 : decode cX9_act 24 = .ok (.iload_n 2, 1) := by decide +kernel
theorem dX9_act_25 : decode cX9_act 25 = .ok (.ifCond .ne 12, 3) := by decide +kernel
theorem dX9_act_28 : decode cX9_act 28 = .ok (.aload_n 0, 1) := by decide +kernel
theorem dX9_act_29 : decode cX9_act 29 = .ok (.iload_n 1, 1) := by decide +kernel
theorem dX9_act_30 : decode cX9_act 30 = .ok (.iload_n 3, 1) := by decide +kernel
theorem dX9_act_31 : decode cX9_act 31 = .ok (.invokevirtual 316, 3) := by decide +kernel
theorem dX9_act_34 : decode cX9_act 34 = .ok (.goto 23, 3) := by decide +kernel
theorem dX9_act_37 : decode cX9_act 37 = .ok (.iload_n 2, 1) := by decide +kernel
theorem dX9_act_38 : decode cX9_act 38 = .ok (.iconst 1, 1) := by decide +kernel
theorem dX9_act_39 : decode cX9_act 39 = .ok (.if_icmp .ne 12, 3) := by decide +kernel
theorem dX9_act_42 : decode cX9_act 42 = .ok (.aload_n 0, 1) := by decide +kernel
theorem dX9_act_43 : decode cX9_act 43 = .ok (.iload_n 1, 1) := by decide +kernel
theorem dX9_act_44 : decode cX9_act 44 = .ok (.iload_n 3, 1) := by decide +kernel
theorem dX9_act_45 : decode cX9_act 45 = .ok (.invokevirtual 319, 3) := by decide +kernel
theorem dX9_act_48 : decode cX9_act 48 = .ok (.goto 9, 3) := by decide +kernel
theorem dX9_act_51 : decode cX9_act 51 = .ok (.aload_n 0, 1) := by decide +kernel
theorem dX9_act_52 : decode cX9_act 52 = .ok (.iload_n 1, 1) := by decide +kernel
theorem dX9_act_53 : decode cX9_act 53 = .ok (.iload_n 3, 1) := by decide +kernel
theorem dX9_act_54 : decode cX9_act 54 = .ok (.invokevirtual 322, 3) := by decide +kernel
theorem dX9_act_57 : decode cX9_act 57 = .ok (.ireturn, 1) := by decide +kernel
theorem dX9_trace_0 : decode cX9_trace 0 = .ok (.iload_n 1, 1) := by decide +kernel
theorem dX9_trace_1 : decode cX9_trace 1 = .ok (.ifCond .lt 26, 3) := by decide +kernel
theorem dX9_trace_4 : decode cX9_trace 4 = .ok (.iload_n 1, 1) := by decide +kernel
theorem dX9_trace_5 : decode cX9_trace 5 = .ok (.bipush 20, 2) := by decide +kernel
theorem dX9_trace_7 : decode cX9_trace 7 = .ok (.if_icmp .ge 20, 3) := by decide +kernel
theorem dX9_trace_10 : decode cX9_trace 10 = .ok (.iload_n 1, 1) := by decide +kernel
theorem dX9_trace_11 : decode cX9_trace 11 = .ok (.aload_n 0, 1) := by decide +kernel
theorem dX9_trace_12 : decode cX9_trace 12 = .ok (.getfield 309, 3) := by decide +kernel
theorem dX9_trace_15 : decode cX9_trace 15 = .ok (.if_icmp .ge 12, 3) := by decide +kernel
theorem dX9_trace_18 : decode cX9_trace 18 = .ok (.aload_n 0, 1) := by decide +kernel
theorem dX9_trace_19 : decode cX9_trace 19 = .ok (.getfield 123, 3) := by decide +kernel
theorem dX9_trace_22 : decode cX9_trace 22 = .ok (.iload_n 1, 1) := by decide +kernel
theorem dX9_trace_23 : decode cX9_trace 23 = .ok (.iaload, 1) := by decide +kernel
theorem dX9_trace_24 : decode cX9_trace 24 = .ok (.goto 4, 3) := by decide +kernel
theorem dX9_trace_27 : decode cX9_trace 27 = .ok (.iconst (-1), 1) := by decide +kernel
theorem dX9_trace_28 : decode cX9_trace 28 = .ok (.ireturn, 1) := by decide +kernel
theorem dX9_image_0 : decode cX9_image 0 = .ok (.aload_n 0, 1) := by decide +kernel
theorem dX9_image_1 : decode cX9_image 1 = .ok (.iconst 1, 1) := by decide +kernel
theorem dX9_image_2 : decode cX9_image 2 = .ok (.putfield 325, 3) := by decide +kernel
theorem dX9_image_5 : decode cX9_image 5 = .ok (.aload_n 0, 1) := by decide +kernel
theorem dX9_image_6 : decode cX9_image 6 = .ok (.aload_n 0, 1) := by decide +kernel
theorem dX9_image_7 : decode cX9_image 7 = .ok (.getfield 102, 3) := by decide +kernel
theorem dX9_image_10 : decode cX9_image 10 = .ok (.iconst 0, 1) := by decide +kernel
theorem dX9_image_11 : decode cX9_image 11 = .ok (.invokevirtual 247, 3) := by decide +kernel
theorem dX9_image_14 : decode cX9_image 14 = .ok (.aload_n 0, 1) := by decide +kernel
theorem dX9_image_15 : decode cX9_image 15 = .ok (.getfield 126, 3) := by decide +kernel
theorem dX9_image_18 : decode cX9_image 18 = .ok (.ireturn, 1) := by decide +kernel
theorem dX9_restore_0 : decode cX9_restore 0 = .ok (.aload_n 0, 1) := by decide +kernel
theorem dX9_restore_1 : decode cX9_restore 1 = .ok (.getfield 325, 3) := by decide +kernel
theorem dX9_restore_4 : decode cX9_restore 4 = .ok (.ifCond .ne 10, 3) := by decide +kernel
theorem dX9_restore_7 : decode cX9_restore 7 = .ok (.aload_n 0, 1) := by decide +kernel
theorem dX9_restore_8 : decode cX9_restore 8 = .ok (.bipush (-6), 2) := by decide +kernel
theorem dX9_restore_10 : decode cX9_restore 10 = .ok (.invokevirtual 136, 3) := by decide +kernel
theorem dX9_restore_13 : decode cX9_restore 13 = .ok (.ireturn, 1) := by decide +kernel
theorem dX9_restore_14 : decode cX9_restore 14 = .ok (.aload_n 0, 1) := by decide +kernel
theorem dX9_restore_15 : decode cX9_restore 15 = .ok (.aload_n 0, 1) := by decide +kernel
theorem dX9_restore_16 : decode cX9_restore 16 = .ok (.getfield 102, 3) := by decide +kernel
theorem dX9_restore_19 : decode cX9_restore 19 = .ok (.iconst 1, 1) := by decide +kernel
theorem dX9_restore_20 : decode cX9_restore 20 = .ok (.invokevirtual 247, 3) := by decide +kernel
theorem dX9_restore_23 : decode cX9_restore 23 = .ok (.iconst 0, 1) := by decide +kernel
theorem dX9_restore_24 : decode cX9_restore 24 = .ok (.istore_n 1, 1) := by decide +kernel
theorem dX9_restore_25 : decode cX9_restore 25 = .ok (.iload_n 1, 1) := by decide +kernel
theorem dX9_restore_26 : decode cX9_restore 26 = .ok (.bipush 8, 2) := by decide +kernel
theorem dX9_restore_28 : decode cX9_restore 28 = .ok (.if_icmp .ge 39, 3) := by decide +kernel
theorem dX9_restore_31 : decode cX9_restore 31 = .ok (.aload_n 0, 1) := by decide +kernel
theorem dX9_restore_32 : decode cX9_restore 32 = .ok (.getfield 65, 3) := by decide +kernel
theorem dX9_restore_35 : decode cX9_restore 35 = .ok (.iload_n 1, 1) := by decide +kernel
theorem dX9_restore_36 : decode cX9_restore 36 = .ok (.iaload, 1) := by decide +kernel
theorem dX9_restore_37 : decode cX9_restore 37 = .ok (.iconst 2, 1) := by decide +kernel
theorem dX9_restore_38 : decode cX9_restore 38 = .ok (.if_icmp .ne 23, 3) := by decide +kernel
theorem dX9_restore_41 : decode cX9_restore 41 = .ok (.aload_n 0, 1) := by decide +kernel
theorem dX9_restore_42 : decode cX9_restore 42 = .ok (.getfield 74, 3) := by decide +kernel
theorem dX9_restore_45 : decode cX9_restore 45 = .ok (.iload_n 1, 1) := by decide +kernel
theorem dX9_restore_46 : decode cX9_restore 46 = .ok (.iaload, 1) := by decide +kernel
theorem dX9_restore_47 : decode cX9_restore 47 = .ok (.aload_n 0, 1) := by decide +kernel
theorem dX9_restore_48 : decode cX9_restore 48 = .ok (.getfield 126, 3) := by decide +kernel
theorem dX9_restore_51 : decode cX9_restore 51 = .ok (.if_icmp .lt 10, 3) := by decide +kernel
theorem dX9_restore_54 : decode cX9_restore 54 = .ok (.aload_n 0, 1) := by decide +kernel
theorem dX9_restore_55 : decode cX9_restore 55 = .ok (.getfield 65, 3) := by decide +kernel
theorem dX9_restore_58 : decode cX9_restore 58 = .ok (.iload_n 1, 1) := by decide +kernel
theorem dX9_restore_59 : decode cX9_restore 59 = .ok (.iconst 0, 1) := by decide +kernel
theorem dX9_restore_60 : decode cX9_restore 60 = .ok (.iastore, 1) := by decide +kernel
theorem dX9_restore_61 : decode cX9_restore 61 = .ok (.iinc 1 1, 3) := by decide +kernel
theorem dX9_restore_64 : decode cX9_restore 64 = .ok (.goto (-39), 3) := by decide +kernel
theorem dX9_restore_67 : decode cX9_restore 67 = .ok (.aload_n 0, 1) := by decide +kernel
theorem dX9_restore_68 : decode cX9_restore 68 = .ok (.getfield 126, 3) := by decide +kernel
theorem dX9_restore_71 : decode cX9_restore 71 = .ok (.ireturn, 1) := by decide +kernel
theorem dX9_inDrawer_0 : decode cX9_inDrawer 0 = .ok (.iconst 0, 1) := by decide +kernel
theorem dX9_inDrawer_1 : decode cX9_inDrawer 1 = .ok (.istore_n 1, 1) := by decide +kernel
theorem dX9_inDrawer_2 : decode cX9_inDrawer 2 = .ok (.iconst 0, 1) := by decide +kernel
theorem dX9_inDrawer_3 : decode cX9_inDrawer 3 = .ok (.istore_n 2, 1) := by decide +kernel
theorem dX9_inDrawer_4 : decode cX9_inDrawer 4 = .ok (.iload_n 2, 1) := by decide +kernel
theorem dX9_inDrawer_5 : decode cX9_inDrawer 5 = .ok (.aload_n 0, 1) := by decide +kernel
theorem dX9_inDrawer_6 : decode cX9_inDrawer 6 = .ok (.getfield 126, 3) := by decide +kernel
theorem dX9_inDrawer_9 : decode cX9_inDrawer 9 = .ok (.if_icmp .ge 23, 3) := by decide +kernel
theorem dX9_inDrawer_12 : decode cX9_inDrawer 12 = .ok (.aload_n 0, 1) := by decide +kernel
theorem dX9_inDrawer_13 : decode cX9_inDrawer 13 = .ok (.getfield 38, 3) := by decide +kernel
theorem dX9_inDrawer_16 : decode cX9_inDrawer 16 = .ok (.iload_n 2, 1) := by decide +kernel
theorem dX9_inDrawer_17 : decode cX9_inDrawer 17 = .ok (.iaload, 1) := by decide +kernel
theorem dX9_inDrawer_18 : decode cX9_inDrawer 18 = .ok (.bipush 99, 2) := by decide +kernel
theorem dX9_inDrawer_20 : decode cX9_inDrawer 20 = .ok (.if_icmp .ne 6, 3) := by decide +kernel
theorem dX9_inDrawer_23 : decode cX9_inDrawer 23 = .ok (.iinc 1 1, 3) := by decide +kernel
theorem dX9_inDrawer_26 : decode cX9_inDrawer 26 = .ok (.iinc 2 1, 3) := by decide +kernel
theorem dX9_inDrawer_29 : decode cX9_inDrawer 29 = .ok (.goto (-25), 3) := by decide +kernel
theorem dX9_inDrawer_32 : decode cX9_inDrawer 32 = .ok (.iload_n 1, 1) := by decide +kernel
theorem dX9_inDrawer_33 : decode cX9_inDrawer 33 = .ok (.ireturn, 1) := by decide +kernel
theorem dX9_status_0 : decode cX9_status 0 = .ok (.iload_n 1, 1) := by decide +kernel
theorem dX9_status_1 : decode cX9_status 1 = .ok (.bipush 11, 2) := by decide +kernel
theorem dX9_status_3 : decode cX9_status 3 = .ok (.if_icmp .lt 19, 3) := by decide +kernel
theorem dX9_status_6 : decode cX9_status 6 = .ok (.iload_n 1, 1) := by decide +kernel
theorem dX9_status_7 : decode cX9_status 7 = .ok (.bipush 17, 2) := by decide +kernel
theorem dX9_status_9 : decode cX9_status 9 = .ok (.if_icmp .gt 13, 3) := by decide +kernel
theorem dX9_status_12 : decode cX9_status 12 = .ok (.aload_n 0, 1) := by decide +kernel
theorem dX9_status_13 : decode cX9_status 13 = .ok (.getfield 16, 3) := by decide +kernel
theorem dX9_status_16 : decode cX9_status 16 = .ok (.iload_n 1, 1) := by decide +kernel
theorem dX9_status_17 : decode cX9_status 17 = .ok (.bipush 10, 2) := by decide +kernel
theorem dX9_status_19 : decode cX9_status 19 = .ok (.isub, 1) := by decide +kernel
theorem dX9_status_20 : decode cX9_status 20 = .ok (.iaload, 1) := by decide +kernel
theorem dX9_status_21 : decode cX9_status 21 = .ok (.ireturn, 1) := by decide +kernel
theorem dX9_status_22 : decode cX9_status 22 = .ok (.iload_n 1, 1) := by decide +kernel
theorem dX9_status_23 : decode cX9_status 23 = .ok (.tableswitch 94 0 8 #[49, 54, 59, 64, 69, 74, 79, 84, 89], 49) := by decide +kernel
theorem dX9_status_72 : decode cX9_status 72 = .ok (.aload_n 0, 1) := by decide +kernel
theorem dX9_status_73 : decode cX9_status 73 = .ok (.getfield 126, 3) := by decide +kernel
theorem dX9_status_76 : decode cX9_status 76 = .ok (.ireturn, 1) := by decide +kernel
theorem dX9_status_77 : decode cX9_status 77 = .ok (.aload_n 0, 1) := by decide +kernel
theorem dX9_status_78 : decode cX9_status 78 = .ok (.getfield 129, 3) := by decide +kernel
theorem dX9_status_81 : decode cX9_status 81 = .ok (.ireturn, 1) := by decide +kernel
theorem dX9_status_82 : decode cX9_status 82 = .ok (.aload_n 0, 1) := by decide +kernel
theorem dX9_status_83 : decode cX9_status 83 = .ok (.invokevirtual 329, 3) := by decide +kernel
theorem dX9_status_86 : decode cX9_status 86 = .ok (.ireturn, 1) := by decide +kernel
theorem dX9_status_87 : decode cX9_status 87 = .ok (.aload_n 0, 1) := by decide +kernel
theorem dX9_status_88 : decode cX9_status 88 = .ok (.invokevirtual 299, 3) := by decide +kernel
theorem dX9_status_91 : decode cX9_status 91 = .ok (.ireturn, 1) := by decide +kernel
theorem dX9_status_92 : decode cX9_status 92 = .ok (.aload_n 0, 1) := by decide +kernel
theorem dX9_status_93 : decode cX9_status 93 = .ok (.getfield 235, 3) := by decide +kernel
theorem dX9_status_96 : decode cX9_status 96 = .ok (.ireturn, 1) := by decide +kernel
theorem dX9_status_97 : decode cX9_status 97 = .ok (.aload_n 0, 1) := by decide +kernel
theorem dX9_status_98 : decode cX9_status 98 = .ok (.getfield 238, 3) := by decide +kernel
theorem dX9_status_101 : decode cX9_status 101 = .ok (.ireturn, 1) := by decide +kernel
theorem dX9_status_102 : decode cX9_status 102 = .ok (.aload_n 0, 1) := by decide +kernel
theorem dX9_status_103 : decode cX9_status 103 = .ok (.getfield 241, 3) := by decide +kernel
theorem dX9_status_106 : decode cX9_status 106 = .ok (.ireturn, 1) := by decide +kernel
theorem dX9_status_107 : decode cX9_status 107 = .ok (.aload_n 0, 1) := by decide +kernel
theorem dX9_status_108 : decode cX9_status 108 = .ok (.getfield 7, 3) := by decide +kernel
theorem dX9_status_111 : decode cX9_status 111 = .ok (.ireturn, 1) := by decide +kernel
theorem dX9_status_112 : decode cX9_status 112 = .ok (.aload_n 0, 1) := by decide +kernel
theorem dX9_status_113 : decode cX9_status 113 = .ok (.getfield 309, 3) := by decide +kernel
theorem dX9_status_116 : decode cX9_status 116 = .ok (.ireturn, 1) := by decide +kernel
theorem dX9_status_117 : decode cX9_status 117 = .ok (.iconst (-1), 1) := by decide +kernel
theorem dX9_status_118 : decode cX9_status 118 = .ok (.ireturn, 1) := by decide +kernel
theorem dJ9_abs_0f7a4_0 : decode cJ9_abs_0f7a4 0 = .ok (.iload_n 0, 1) := by decide +kernel
theorem dJ9_abs_0f7a4_1 : decode cJ9_abs_0f7a4 1 = .ok (.ifCond .ge 8, 3) := by decide +kernel
theorem dJ9_abs_0f7a4_4 : decode cJ9_abs_0f7a4 4 = .ok (.iload_n 0, 1) := by decide +kernel
theorem dJ9_abs_0f7a4_5 : decode cJ9_abs_0f7a4 5 = .ok (.ineg, 1) := by decide +kernel
theorem dJ9_abs_0f7a4_6 : decode cJ9_abs_0f7a4 6 = .ok (.goto 4, 3) := by decide +kernel
theorem dJ9_abs_0f7a4_9 : decode cJ9_abs_0f7a4 9 = .ok (.iload_n 0, 1) := by decide +kernel
theorem dJ9_abs_0f7a4_10 : decode cJ9_abs_0f7a4 10 = .ok (.ireturn, 1) := by decide +kernel
theorem dJ9_max_7cf53_0 : decode cJ9_max_7cf53 0 = .ok (.iload_n 0, 1) := by decide +kernel
theorem dJ9_max_7cf53_1 : decode cJ9_max_7cf53 1 = .ok (.iload_n 1, 1) := by decide +kernel
theorem dJ9_max_7cf53_2 : decode cJ9_max_7cf53 2 = .ok (.if_icmp .lt 7, 3) := by decide +kernel
theorem dJ9_max_7cf53_5 : decode cJ9_max_7cf53 5 = .ok (.iload_n 0, 1) := by decide +kernel
theorem dJ9_max_7cf53_6 : decode cJ9_max_7cf53 6 = .ok (.goto 4, 3) := by decide +kernel
theorem dJ9_max_7cf53_9 : decode cJ9_max_7cf53 9 = .ok (.iload_n 1, 1) := by decide +kernel
theorem dJ9_max_7cf53_10 : decode cJ9_max_7cf53 10 = .ok (.ireturn, 1) := by decide +kernel
theorem dJ9_min_7cf53_0 : decode cJ9_min_7cf53 0 = .ok (.iload_n 0, 1) := by decide +kernel
theorem dJ9_min_7cf53_1 : decode cJ9_min_7cf53 1 = .ok (.iload_n 1, 1) := by decide +kernel
