theorem dX8_looks_44 : decode cX8_looks 44 = .ok (.getfield 28, 3) := by decide +kernel
theorem dX8_looks_47 : decode cX8_looks 47 = .ok (.iload_n 1, 1) := by decide +kernel
theorem dX8_looks_48 : decode cX8_looks 48 = .ok (.aaload, 1) := by decide +kernel
theorem dX8_looks_49 : decode cX8_looks 49 = .ok (.getfield 268, 3) := by decide +kernel
theorem dX8_looks_52 : decode cX8_looks 52 = .ok (.aload_n 0, 1) := by decide +kernel
theorem dX8_looks_53 : decode cX8_looks 53 = .ok (.getfield 10, 3) := by decide +kernel
theorem dX8_looks_56 : decode cX8_looks 56 = .ok (.getfield 238, 3) := by decide +kernel
theorem dX8_looks_59 : decode cX8_looks 59 = .ok (.if_icmp .lt 12, 3) := by decide +kernel
theorem dX8_looks_62 : decode cX8_looks 62 = .ok (.iload_n 3, 1) := by decide +kernel
theorem dX8_looks_63 : decode cX8_looks 63 = .ok (.iconst 0, 1) := by decide +kernel
theorem dX8_looks_64 : decode cX8_looks 64 = .ok (.iconst 1, 1) := by decide +kernel
theorem dX8_looks_65 : decode cX8_looks 65 = .ok (.invokestatic 81, 3) := by decide +kernel
theorem dX8_looks_68 : decode cX8_looks 68 = .ok (.ifCond .ne 9, 3) := by decide +kernel
theorem dX8_looks_71 : decode cX8_looks 71 = .ok (.aload_n 0, 1) := by decide +kernel
theorem dX8_looks_72 : decode cX8_looks 72 = .ok (.iconst 5, 1) := by decide +kernel
theorem dX8_looks_73 : decode cX8_looks 73 = .ok (.invokevirtual 77, 3) := by decide +kernel
theorem dX8_looks_76 : decode cX8_looks 76 = .ok (.ireturn, 1) := by decide +kernel
theorem dX8_looks_77 : decode cX8_looks 77 = .ok (.aload_n 0, 1) := by decide +kernel
theorem dX8_looks_78 : decode cX8_looks 78 = .ok (.aload_n 0, 1) := by decide +kernel
theorem dX8_looks_79 : decode cX8_looks 79 = .ok (.getfield 28, 3) := by decide +kernel
theorem dX8_looks_82 : decode cX8_looks 82 = .ok (.iload_n 1, 1) := by decide +kernel
theorem dX8_looks_83 : decode cX8_looks 83 = .ok (.aaload, 1) := by decide +kernel
theorem dX8_looks_84 : decode cX8_looks 84 = .ok (.aload_n 0, 1) := by decide +kernel
theorem dX8_looks_85 : decode cX8_looks 85 = .ok (.getfield 10, 3) := by decide +kernel
theorem dX8_looks_88 : decode cX8_looks 88 = .ok (.getfield 62, 3) := by decide +kernel
theorem dX8_looks_91 : decode cX8_looks 91 = .ok (.iload_n 2, 1) := by decide +kernel
theorem dX8_looks_92 : decode cX8_looks 92 = .ok (.aaload, 1) := by decide +kernel
theorem dX8_looks_93 : decode cX8_looks 93 = .ok (.iload_n 3, 1) := by decide +kernel
theorem dX8_looks_94 : decode cX8_looks 94 = .ok (.ifCond .ne 7, 3) := by decide +kernel
theorem dX8_looks_97 : decode cX8_looks 97 = .ok (.iconst 1, 1) := by decide +kernel
theorem dX8_looks_98 : decode cX8_looks 98 = .ok (.goto 4, 3) := by decide +kernel
theorem dX8_looks_101 : decode cX8_looks 101 = .ok (.iconst 0, 1) := by decide +kernel
theorem dX8_looks_102 : decode cX8_looks 102 = .ok (.invokevirtual 271, 3) := by decide +kernel
theorem dX8_looks_105 : decode cX8_looks 105 = .ok (.ireturn, 1) := by decide +kernel
theorem dX8_dearest_0 : decode cX8_dearest 0 = .ok (.iload_n 1, 1) := by decide +kernel
theorem dX8_dearest_1 : decode cX8_dearest 1 = .ok (.iconst 0, 1) := by decide +kernel
theorem dX8_dearest_2 : decode cX8_dearest 2 = .ok (.iconst 1, 1) := by decide +kernel
theorem dX8_dearest_3 : decode cX8_dearest 3 = .ok (.invokestatic 81, 3) := by decide +kernel
theorem dX8_dearest_6 : decode cX8_dearest 6 = .ok (.ifCond .ne 9, 3) := by decide +kernel
theorem dX8_dearest_9 : decode cX8_dearest 9 = .ok (.aload_n 0, 1) := by decide +kernel
theorem dX8_dearest_10 : decode cX8_dearest 10 = .ok (.iconst 5, 1) := by decide +kernel
theorem dX8_dearest_11 : decode cX8_dearest 11 = .ok (.invokevirtual 197, 3) := by decide +kernel
theorem dX8_dearest_14 : decode cX8_dearest 14 = .ok (.ireturn, 1) := by decide +kernel
theorem dX8_dearest_15 : decode cX8_dearest 15 = .ok (.iload_n 1, 1) := by decide +kernel
theorem dX8_dearest_16 : decode cX8_dearest 16 = .ok (.iconst 1, 1) := by decide +kernel
theorem dX8_dearest_17 : decode cX8_dearest 17 = .ok (.if_icmp .ne 11, 3) := by decide +kernel
theorem dX8_dearest_20 : decode cX8_dearest 20 = .ok (.aload_n 0, 1) := by decide +kernel
theorem dX8_dearest_21 : decode cX8_dearest 21 = .ok (.getfield 10, 3) := by decide +kernel
theorem dX8_dearest_24 : decode cX8_dearest 24 = .ok (.invokevirtual 275, 3) := by decide +kernel
theorem dX8_dearest_27 : decode cX8_dearest 27 = .ok (.ireturn, 1) := by decide +kernel
theorem dX8_dearest_28 : decode cX8_dearest 28 = .ok (.aload_n 0, 1) := by decide +kernel
theorem dX8_dearest_29 : decode cX8_dearest 29 = .ok (.getfield 39, 3) := by decide +kernel
theorem dX8_dearest_32 : decode cX8_dearest 32 = .ok (.aload_n 0, 1) := by decide +kernel
theorem dX8_dearest_33 : decode cX8_dearest 33 = .ok (.getfield 10, 3) := by decide +kernel
theorem dX8_dearest_36 : decode cX8_dearest 36 = .ok (.invokevirtual 228, 3) := by decide +kernel
theorem dX8_dearest_39 : decode cX8_dearest 39 = .ok (.aload_n 0, 1) := by decide +kernel
theorem dX8_dearest_40 : decode cX8_dearest 40 = .ok (.getfield 39, 3) := by decide +kernel
theorem dX8_dearest_43 : decode cX8_dearest 43 = .ok (.invokevirtual 278, 3) := by decide +kernel
theorem dX8_dearest_46 : decode cX8_dearest 46 = .ok (.ireturn, 1) := by decide +kernel
theorem dX8_judge_0 : decode cX8_judge 0 = .ok (.aload_n 0, 1) := by decide +kernel
theorem dX8_judge_1 : decode cX8_judge 1 = .ok (.iload_n 1, 1) := by decide +kernel
theorem dX8_judge_2 : decode cX8_judge 2 = .ok (.iload_n 2, 1) := by decide +kernel
theorem dX8_judge_3 : decode cX8_judge 3 = .ok (.invokevirtual 281, 3) := by decide +kernel
theorem dX8_judge_6 : decode cX8_judge 6 = .ok (.istore_n 3, 1) := by decide +kernel
theorem dX8_judge_7 : decode cX8_judge 7 = .ok (.iload_n 3, 1) := by decide +kernel
theorem dX8_judge_8 : decode cX8_judge 8 = .ok (.ifCond .eq 9, 3) := by decide +kernel
theorem dX8_judge_11 : decode cX8_judge 11 = .ok (.aload_n 0, 1) := by decide +kernel
theorem dX8_judge_12 : decode cX8_judge 12 = .ok (.iload_n 3, 1) := by decide +kernel
theorem dX8_judge_13 : decode cX8_judge 13 = .ok (.invokevirtual 197, 3) := by decide +kernel
theorem dX8_judge_16 : decode cX8_judge 16 = .ok (.ireturn, 1) := by decide +kernel
theorem dX8_judge_17 : decode cX8_judge 17 = .ok (.aload_n 0, 1) := by decide +kernel
theorem dX8_judge_18 : decode cX8_judge 18 = .ok (.aload_n 0, 1) := by decide +kernel
theorem dX8_judge_19 : decode cX8_judge 19 = .ok (.getfield 28, 3) := by decide +kernel
theorem dX8_judge_22 : decode cX8_judge 22 = .ok (.iload_n 1, 1) := by decide +kernel
theorem dX8_judge_23 : decode cX8_judge 23 = .ok (.aaload, 1) := by decide +kernel
theorem dX8_judge_24 : decode cX8_judge 24 = .ok (.iload_n 2, 1) := by decide +kernel
theorem dX8_judge_25 : decode cX8_judge 25 = .ok (.invokevirtual 284, 3) := by decide +kernel
theorem dX8_judge_28 : decode cX8_judge 28 = .ok (.ireturn, 1) := by decide +kernel
theorem dX8_behind_0 : decode cX8_behind 0 = .ok (.aload_n 0, 1) := by decide +kernel
theorem dX8_behind_1 : decode cX8_behind 1 = .ok (.iload_n 1, 1) := by decide +kernel
theorem dX8_behind_2 : decode cX8_behind 2 = .ok (.iload_n 2, 1) := by decide +kernel
theorem dX8_behind_3 : decode cX8_behind 3 = .ok (.invokevirtual 281, 3) := by decide +kernel
theorem dX8_behind_6 : decode cX8_behind 6 = .ok (.istore 4, 2) := by decide +kernel
theorem dX8_behind_8 : decode cX8_behind 8 = .ok (.iload 4, 2) := by decide +kernel
theorem dX8_behind_10 : decode cX8_behind 10 = .ok (.ifCond .eq 9, 3) := by decide +kernel
theorem dX8_behind_13 : decode cX8_behind 13 = .ok (.iload 4, 2) := by decide +kernel
theorem dX8_behind_15 : decode cX8_behind 15 = .ok (.iconst 5, 1) := by decide +kernel
theorem dX8_behind_16 : decode cX8_behind 16 = .ok (.if_icmp .le 15, 3) := by decide +kernel
theorem dX8_behind_19 : decode cX8_behind 19 = .ok (.iload_n 3, 1) := by decide +kernel
theorem dX8_behind_20 : decode cX8_behind 20 = .ok (.iconst 0, 1) := by decide +kernel
theorem dX8_behind_21 : decode cX8_behind 21 = .ok (.iconst 2, 1) := by decide +kernel
theorem dX8_behind_22 : decode cX8_behind 22 = .ok (.invokestatic 81, 3) := by decide +kernel
theorem dX8_behind_25 : decode cX8_behind 25 = .ok (.ifCond .ne 6, 3) := by decide +kernel
theorem dX8_behind_28 : decode cX8_behind 28 = .ok (.iconst 5, 1) := by decide +kernel
theorem dX8_behind_29 : decode cX8_behind 29 = .ok (.istore 4, 2) := by decide +kernel
theorem dX8_behind_31 : decode cX8_behind 31 = .ok (.iload 4, 2) := by decide +kernel
theorem dX8_behind_33 : decode cX8_behind 33 = .ok (.ifCond .ne 22, 3) := by decide +kernel
theorem dX8_behind_36 : decode cX8_behind 36 = .ok (.aload_n 0, 1) := by decide +kernel
theorem dX8_behind_37 : decode cX8_behind 37 = .ok (.aload_n 0, 1) := by decide +kernel
theorem dX8_behind_38 : decode cX8_behind 38 = .ok (.getfield 28, 3) := by decide +kernel
theorem dX8_behind_41 : decode cX8_behind 41 = .ok (.iload_n 1, 1) := by decide +kernel
theorem dX8_behind_42 : decode cX8_behind 42 = .ok (.aaload, 1) := by decide +kernel
theorem dX8_behind_43 : decode cX8_behind 43 = .ok (.iload_n 2, 1) := by decide +kernel
theorem dX8_behind_44 : decode cX8_behind 44 = .ok (.invokevirtual 284, 3) := by decide +kernel
theorem dX8_behind_47 : decode cX8_behind 47 = .ok (.iconst (-1), 1) := by decide +kernel
theorem dX8_behind_48 : decode cX8_behind 48 = .ok (.if_icmp .eq 7, 3) := by decide +kernel
theorem dX8_behind_51 : decode cX8_behind 51 = .ok (.bipush 6, 2) := by decide +kernel
theorem dX8_behind_53 : decode cX8_behind 53 = .ok (.istore 4, 2) := by decide +kernel
theorem dX8_behind_55 : decode cX8_behind 55 = .ok (.iload 4, 2) := by decide +kernel
theorem dX8_behind_57 : decode cX8_behind 57 = .ok (.ifCond .eq 10, 3) := by decide +kernel
theorem dX8_behind_60 : decode cX8_behind 60 = .ok (.aload_n 0, 1) := by decide +kernel
theorem dX8_behind_61 : decode cX8_behind 61 = .ok (.iload 4, 2) := by decide +kernel
theorem dX8_behind_63 : decode cX8_behind 63 = .ok (.invokevirtual 77, 3) := by decide +kernel
theorem dX8_behind_66 : decode cX8_behind 66 = .ok (.ireturn, 1) := by decide +kernel
theorem dX8_behind_67 : decode cX8_behind 67 = .ok (.iload_n 3, 1) := by decide +kernel
theorem dX8_behind_68 : decode cX8_behind 68 = .ok (.ifCond .ne 11, 3) := by decide +kernel
theorem dX8_behind_71 : decode cX8_behind 71 = .ok (.aload_n 0, 1) := by decide +kernel
theorem dX8_behind_72 : decode cX8_behind 72 = .ok (.getfield 19, 3) := by decide +kernel
theorem dX8_behind_75 : decode cX8_behind 75 = .ok (.invokevirtual 288, 3) := by decide +kernel
theorem dX8_behind_78 : decode cX8_behind 78 = .ok (.ireturn, 1) := by decide +kernel
theorem dX8_behind_79 : decode cX8_behind 79 = .ok (.iload_n 3, 1) := by decide +kernel
theorem dX8_behind_80 : decode cX8_behind 80 = .ok (.iconst 1, 1) := by decide +kernel
theorem dX8_behind_81 : decode cX8_behind 81 = .ok (.if_icmp .ne 13, 3) := by decide +kernel
theorem dX8_behind_84 : decode cX8_behind 84 = .ok (.aload_n 0, 1) := by decide +kernel
theorem dX8_behind_85 : decode cX8_behind 85 = .ok (.getfield 19, 3) := by decide +kernel
theorem dX8_behind_88 : decode cX8_behind 88 = .ok (.invokevirtual 291, 3) := by decide +kernel
theorem dX8_behind_91 : decode cX8_behind 91 = .ok (.goto 10, 3) := by decide +kernel
theorem dX8_behind_94 : decode cX8_behind 94 = .ok (.aload_n 0, 1) := by decide +kernel
theorem dX8_behind_95 : decode cX8_behind 95 = .ok (.getfield 19, 3) := by decide +kernel
theorem dX8_behind_98 : decode cX8_behind 98 = .ok (.invokevirtual 294, 3) := by decide +kernel
theorem dX8_behind_101 : decode cX8_behind 101 = .ok (.ireturn, 1) := by decide +kernel
theorem dX8_done_0 : decode cX8_done 0 = .ok (.aload_n 0, 1) := by decide +kernel
theorem dX8_done_1 : decode cX8_done 1 = .ok (.iload_n 1, 1) := by decide +kernel
theorem dX8_done_2 : decode cX8_done 2 = .ok (.iload_n 2, 1) := by decide +kernel
theorem dX8_done_3 : decode cX8_done 3 = .ok (.invokevirtual 281, 3) := by decide +kernel
theorem dX8_done_6 : decode cX8_done 6 = .ok (.istore_n 3, 1) := by decide +kernel
theorem dX8_done_7 : decode cX8_done 7 = .ok (.iload_n 3, 1) := by decide +kernel
theorem dX8_done_8 : decode cX8_done 8 = .ok (.ifCond .ne 21, 3) := by decide +kernel
theorem dX8_done_11 : decode cX8_done 11 = .ok (.aload_n 0, 1) := by decide +kernel
theorem dX8_done_12 : decode cX8_done 12 = .ok (.aload_n 0, 1) := by decide +kernel
theorem dX8_done_13 : decode cX8_done 13 = .ok (.getfield 28, 3) := by decide +kernel
theorem dX8_done_16 : decode cX8_done 16 = .ok (.iload_n 1, 1) := by decide +kernel
theorem dX8_done_17 : decode cX8_done 17 = .ok (.aaload, 1) := by decide +kernel
theorem dX8_done_18 : decode cX8_done 18 = .ok (.iload_n 2, 1) := by decide +kernel
theorem dX8_done_19 : decode cX8_done 19 = .ok (.invokevirtual 284, 3) := by decide +kernel
theorem dX8_done_22 : decode cX8_done 22 = .ok (.iconst (-1), 1) := by decide +kernel
theorem dX8_done_23 : decode cX8_done 23 = .ok (.if_icmp .eq 6, 3) := by decide +kernel
theorem dX8_done_26 : decode cX8_done 26 = .ok (.bipush 6, 2) := by decide +kernel
theorem dX8_done_28 : decode cX8_done 28 = .ok (.istore_n 3, 1) := by decide +kernel
theorem dX8_done_29 : decode cX8_done 29 = .ok (.iload_n 3, 1) := by decide +kernel
theorem dX8_done_30 : decode cX8_done 30 = .ok (.ifCond .eq 9, 3) := by decide +kernel
theorem dX8_done_33 : decode cX8_done 33 = .ok (.aload_n 0, 1) := by decide +kernel
theorem dX8_done_34 : decode cX8_done 34 = .ok (.iload_n 3, 1) := by decide +kernel
theorem dX8_done_35 : decode cX8_done 35 = .ok (.invokevirtual 77, 3) := by decide +kernel
theorem dX8_done_38 : decode cX8_done 38 = .ok (.ireturn, 1) := by decide +kernel
theorem dX8_done_39 : decode cX8_done 39 = .ok (.aload_n 0, 1) := by decide +kernel
theorem dX8_done_40 : decode cX8_done 40 = .ok (.getfield 10, 3) := by decide +kernel
theorem dX8_done_43 : decode cX8_done 43 = .ok (.aload_n 0, 1) := by decide +kernel
theorem dX8_done_44 : decode cX8_done 44 = .ok (.getfield 19, 3) := by decide +kernel
theorem dX8_done_47 : decode cX8_done 47 = .ok (.invokevirtual 203, 3) := by decide +kernel
theorem dX8_done_50 : decode cX8_done 50 = .ok (.aload_n 0, 1) := by decide +kernel
theorem dX8_done_51 : decode cX8_done 51 = .ok (.getfield 10, 3) := by decide +kernel
theorem dX8_done_54 : decode cX8_done 54 = .ok (.getfield 297, 3) := by decide +kernel
theorem dX8_done_57 : decode cX8_done 57 = .ok (.ireturn, 1) := by decide +kernel
theorem dX8_mend_0 : decode cX8_mend 0 = .ok (.aload_n 0, 1) := by decide +kernel
theorem dX8_mend_1 : decode cX8_mend 1 = .ok (.getfield 10, 3) := by decide +kernel
theorem dX8_mend_4 : decode cX8_mend 4 = .ok (.iload_n 1, 1) := by decide +kernel
theorem dX8_mend_5 : decode cX8_mend 5 = .ok (.invokevirtual 117, 3) := by decide +kernel
theorem dX8_mend_8 : decode cX8_mend 8 = .ok (.ifCond .eq 14, 3) := by decide +kernel
theorem dX8_mend_11 : decode cX8_mend 11 = .ok (.aload_n 0, 1) := by decide +kernel
theorem dX8_mend_12 : decode cX8_mend 12 = .ok (.getfield 10, 3) := by decide +kernel
theorem dX8_mend_15 : decode cX8_mend 15 = .ok (.iload_n 2, 1) := by decide +kernel
theorem dX8_mend_16 : decode cX8_mend 16 = .ok (.invokevirtual 174, 3) := by decide +kernel
theorem dX8_mend_19 : decode cX8_mend 19 = .ok (.ifCond .ne 9, 3) := by decide +kernel
theorem dX8_mend_22 : decode cX8_mend 22 = .ok (.aload_n 0, 1) := by decide +kernel
theorem dX8_mend_23 : decode cX8_mend 23 = .ok (.iconst 1, 1) := by decide +kernel
theorem dX8_mend_24 : decode cX8_mend 24 = .ok (.invokevirtual 77, 3) := by decide +kernel
theorem dX8_mend_27 : decode cX8_mend 27 = .ok (.ireturn, 1) := by decide +kernel
theorem dX8_mend_28 : decode cX8_mend 28 = .ok (.iload_n 3, 1) := by decide +kernel
theorem dX8_mend_29 : decode cX8_mend 29 = .ok (.invokestatic 149, 3) := by decide +kernel
theorem dX8_mend_32 : decode cX8_mend 32 = .ok (.ifCond .eq 16, 3) := by decide +kernel
theorem dX8_mend_35 : decode cX8_mend 35 = .ok (.aload_n 0, 1) := by decide +kernel
theorem dX8_mend_36 : decode cX8_mend 36 = .ok (.getfield 10, 3) := by decide +kernel
theorem dX8_mend_39 : decode cX8_mend 39 = .ok (.iload_n 1, 1) := by decide +kernel
theorem dX8_mend_40 : decode cX8_mend 40 = .ok (.iload_n 2, 1) := by decide +kernel
theorem dX8_mend_41 : decode cX8_mend 41 = .ok (.iload_n 3, 1) := by decide +kernel
theorem dX8_mend_42 : decode cX8_mend 42 = .ok (.invokevirtual 300, 3) := by decide +kernel
theorem dX8_mend_45 : decode cX8_mend 45 = .ok (.ifCond .ne 10, 3) := by decide +kernel
theorem dX8_mend_48 : decode cX8_mend 48 = .ok (.aload_n 0, 1) := by decide +kernel
theorem dX8_mend_49 : decode cX8_mend 49 = .ok (.bipush 6, 2) := by decide +kernel
theorem dX8_mend_51 : decode cX8_mend 51 = .ok (.invokevirtual 77, 3) := by decide +kernel
theorem dX8_mend_54 : decode cX8_mend 54 = .ok (.ireturn, 1) := by decide +kernel
theorem dX8_mend_55 : decode cX8_mend 55 = .ok (.aload_n 0, 1) := by decide +kernel
theorem dX8_mend_56 : decode cX8_mend 56 = .ok (.getfield 10, 3) := by decide +kernel
theorem dX8_mend_59 : decode cX8_mend 59 = .ok (.iload_n 1, 1) := by decide +kernel
theorem dX8_mend_60 : decode cX8_mend 60 = .ok (.iload_n 2, 1) := by decide +kernel
theorem dX8_mend_61 : decode cX8_mend 61 = .ok (.iload_n 3, 1) := by decide +kernel
theorem dX8_mend_62 : decode cX8_mend 62 = .ok (.invokevirtual 303, 3) := by decide +kernel
theorem dX8_mend_65 : decode cX8_mend 65 = .ok (.aload_n 0, 1) := by decide +kernel
theorem dX8_mend_66 : decode cX8_mend 66 = .ok (.getfield 10, 3) := by decide +kernel
theorem dX8_mend_69 : decode cX8_mend 69 = .ok (.getfield 307, 3) := by decide +kernel
theorem dX8_mend_72 : decode cX8_mend 72 = .ok (.ireturn, 1) := by decide +kernel
theorem dX8_off_0 : decode cX8_off 0 = .ok (.aload_n 0, 1) := by decide +kernel
theorem dX8_off_1 : decode cX8_off 1 = .ok (.getfield 10, 3) := by decide +kernel
theorem dX8_off_4 : decode cX8_off 4 = .ok (.iload_n 1, 1) := by decide +kernel
theorem dX8_off_5 : decode cX8_off 5 = .ok (.invokevirtual 117, 3) := by decide +kernel
theorem dX8_off_8 : decode cX8_off 8 = .ok (.ifCond .ne 9, 3) := by decide +kernel
theorem dX8_off_11 : decode cX8_off 11 = .ok (.aload_n 0, 1) := by decide +kernel
theorem dX8_off_12 : decode cX8_off 12 = .ok (.iconst 1, 1) := by decide +kernel
theorem dX8_off_13 : decode cX8_off 13 = .ok (.invokevirtual 77, 3) := by decide +kernel
theorem dX8_off_16 : decode cX8_off 16 = .ok (.ireturn, 1) := by decide +kernel
theorem dX8_off_17 : decode cX8_off 17 = .ok (.aload_n 0, 1) := by decide +kernel
theorem dX8_off_18 : decode cX8_off 18 = .ok (.getfield 10, 3) := by decide +kernel
theorem dX8_off_21 : decode cX8_off 21 = .ok (.getfield 62, 3) := by decide +kernel
theorem dX8_off_24 : decode cX8_off 24 = .ok (.iload_n 1, 1) := by decide +kernel
theorem dX8_off_25 : decode cX8_off 25 = .ok (.aaload, 1) := by decide +kernel
theorem dX8_off_26 : decode cX8_off 26 = .ok (.invokevirtual 310, 3) := by decide +kernel
theorem dX8_off_29 : decode cX8_off 29 = .ok (.ifCond .eq 10, 3) := by decide +kernel
theorem dX8_off_32 : decode cX8_off 32 = .ok (.aload_n 0, 1) := by decide +kernel
theorem dX8_off_33 : decode cX8_off 33 = .ok (.bipush 6, 2) := by decide +kernel
theorem dX8_off_35 : decode cX8_off 35 = .ok (.invokevirtual 77, 3) := by decide +kernel
theorem dX8_off_38 : decode cX8_off 38 = .ok (.ireturn, 1) := by decide +kernel
theorem dX8_off_39 : decode cX8_off 39 = .ok (.aload_n 0, 1) := by decide +kernel
theorem dX8_off_40 : decode cX8_off 40 = .ok (.getfield 10, 3) := by decide +kernel
theorem dX8_off_43 : decode cX8_off 43 = .ok (.getfield 62, 3) := by decide +kernel
theorem dX8_off_46 : decode cX8_off 46 = .ok (.iload_n 1, 1) := by decide +kernel
theorem dX8_off_47 : decode cX8_off 47 = .ok (.aaload, 1) := by decide +kernel
theorem dX8_off_48 : decode cX8_off 48 = .ok (.getfield 313, 3) := by decide +kernel
theorem dX8_off_51 : decode cX8_off 51 = .ok (.istore_n 2, 1) := by decide +kernel
theorem dX8_off_52 : decode cX8_off 52 = .ok (.aload_n 0, 1) := by decide +kernel
theorem dX8_off_53 : decode cX8_off 53 = .ok (.getfield 10, 3) := by decide +kernel
theorem dX8_off_56 : decode cX8_off 56 = .ok (.getfield 62, 3) := by decide +kernel
theorem dX8_off_59 : decode cX8_off 59 = .ok (.iload_n 1, 1) := by decide +kernel
theorem dX8_off_60 : decode cX8_off 60 = .ok (.aaload, 1) := by decide +kernel
theorem dX8_off_61 : decode cX8_off 61 = .ok (.invokevirtual 316, 3) := by decide +kernel
theorem dX8_off_64 : decode cX8_off 64 = .ok (.iload_n 2, 1) := by decide +kernel
theorem dX8_off_65 : decode cX8_off 65 = .ok (.ireturn, 1) := by decide +kernel
theorem dX8_days_0 : decode cX8_days 0 = .ok (.aload_n 0, 1) := by decide +kernel
theorem dX8_days_1 : decode cX8_days 1 = .ok (.getfield 10, 3) := by decide +kernel
theorem dX8_days_4 : decode cX8_days 4 = .ok (.getfield 319, 3) := by decide +kernel
theorem dX8_days_7 : decode cX8_days 7 = .ok (.ifCond .eq 13, 3) := by decide +kernel
theorem dX8_days_10 : decode cX8_days 10 = .ok (.aload_n 0, 1) := by decide +kernel
theorem dX8_days_11 : decode cX8_days 11 = .ok (.getfield 10, 3) := by decide +kernel
theorem dX8_days_14 : decode cX8_days 14 = .ok (.getfield 238, 3) := by decide +kernel
theorem dX8_days_17 : decode cX8_days 17 = .ok (.ifCond .ne 9, 3) := by decide +kernel
theorem dX8_days_20 : decode cX8_days 20 = .ok (.aload_n 0, 1) := by decide +kernel
theorem dX8_days_21 : decode cX8_days 21 = .ok (.iconst 5, 1) := by decide +kernel
theorem dX8_days_22 : decode cX8_days 22 = .ok (.invokevirtual 77, 3) := by decide +kernel
theorem dX8_days_25 : decode cX8_days 25 = .ok (.ireturn, 1) := by decide +kernel
theorem dX8_days_26 : decode cX8_days 26 = .ok (.iload_n 1, 1) := by decide +kernel
theorem dX8_days_27 : decode cX8_days 27 = .ok (.iconst 1, 1) := by decide +kernel
theorem dX8_days_28 : decode cX8_days 28 = .ok (.bipush 60, 2) := by decide +kernel
theorem dX8_days_30 : decode cX8_days 30 = .ok (.invokestatic 81, 3) := by decide +kernel
theorem dX8_days_33 : decode cX8_days 33 = .ok (.ifCond .ne 10, 3) := by decide +kernel
theorem dX8_days_36 : decode cX8_days 36 = .ok (.aload_n 0, 1) := by decide +kernel
theorem dX8_days_37 : decode cX8_days 37 = .ok (.bipush 6, 2) := by decide +kernel
theorem dX8_days_39 : decode cX8_days 39 = .ok (.invokevirtual 77, 3) := by decide +kernel
theorem dX8_days_42 : decode cX8_days 42 = .ok (.ireturn, 1) := by decide +kernel
theorem dX8_days_43 : decode cX8_days 43 = .ok (.iconst 0, 1) := by decide +kernel
theorem dX8_days_44 : decode cX8_days 44 = .ok (.istore_n 2, 1) := by decide +kernel
theorem dX8_days_45 : decode cX8_days 45 = .ok (.iload_n 2, 1) := by decide +kernel
theorem dX8_days_46 : decode cX8_days 46 = .ok (.iload_n 1, 1) := by decide +kernel
theorem dX8_days_47 : decode cX8_days 47 = .ok (.if_icmp .ge 16, 3) := by decide +kernel
theorem dX8_days_50 : decode cX8_days 50 = .ok (.aload_n 0, 1) := by decide +kernel
theorem dX8_days_51 : decode cX8_days 51 = .ok (.getfield 10, 3) := by decide +kernel
theorem dX8_days_54 : decode cX8_days 54 = .ok (.invokevirtual 322, 3) := by decide +kernel
theorem dX8_days_57 : decode cX8_days 57 = .ok (.iinc 2 1, 3) := by decide +kernel
theorem dX8_days_60 : decode cX8_days 60 = .ok (.goto (-15), 3) := by decide +kernel
theorem dX8_days_63 : decode cX8_days 63 = .ok (.aload_n 0, 1) := by decide +kernel
theorem dX8_days_64 : decode cX8_days 64 = .ok (.getfield 10, 3) := by decide +kernel
theorem dX8_days_67 : decode cX8_days 67 = .ok (.getfield 297, 3) := by decide +kernel
theorem dX8_days_70 : decode cX8_days 70 = .ok (.ireturn, 1) := by decide +kernel
theorem dX8_seed_0 : decode cX8_seed 0 = .ok (.aload_n 0, 1) := by decide +kernel
theorem dX8_seed_1 : decode cX8_seed 1 = .ok (.getfield 10, 3) := by decide +kernel
theorem dX8_seed_4 : decode cX8_seed 4 = .ok (.getfield 325, 3) := by decide +kernel
theorem dX8_seed_7 : decode cX8_seed 7 = .ok (.istore_n 2, 1) := by decide +kernel
theorem dX8_seed_8 : decode cX8_seed 8 = .ok (.aload_n 0, 1) := by decide +kernel
theorem dX8_seed_9 : decode cX8_seed 9 = .ok (.getfield 10, 3) := by decide +kernel
theorem dX8_seed_12 : decode cX8_seed 12 = .ok (.iload_n 1, 1) := by decide +kernel
theorem dX8_seed_13 : decode cX8_seed 13 = .ok (.putfield 325, 3) := by decide +kernel
theorem dX8_seed_16 : decode cX8_seed 16 = .ok (.iload_n 2, 1) := by decide +kernel
theorem dX8_seed_17 : decode cX8_seed 17 = .ok (.ireturn, 1) := by decide +kernel
theorem dX8_act_0 : decode cX8_act 0 = .ok (.aload_n 0, 1) := by decide +kernel
theorem dX8_act_1 : decode cX8_act 1 = .ok (.getfield 69, 3) := by decide +kernel
theorem dX8_act_4 : decode cX8_act 4 = .ok (.invokevirtual 328, 3) := by decide +kernel
theorem dX8_act_7 : decode cX8_act 7 = .ok (.aload_n 0, 1) := by decide +kernel
theorem dX8_act_8 : decode cX8_act 8 = .ok (.getfield 10, 3) := by decide +kernel
theorem dX8_act_11 : decode cX8_act 11 = .ok (.iload_n 1, 1) := by decide +kernel
theorem dX8_act_12 : decode cX8_act 12 = .ok (.invokevirtual 117, 3) := by decide +kernel
theorem dX8_act_15 : decode cX8_act 15 = .ok (.ifCond .eq 12, 3) := by decide +kernel
theorem dX8_act_18 : decode cX8_act 18 = .ok (.iload_n 2, 1) := by decide +kernel
theorem dX8_act_19 : decode cX8_act 19 = .ok (.iconst 0, 1) := by decide +kernel
theorem dX8_act_20 : decode cX8_act 20 = .ok (.iconst 2, 1) := by decide +kernel
theorem dX8_act_21 : decode cX8_act 21 = .ok (.invokestatic 81, 3) := by decide +kernel
theorem dX8_act_24 : decode cX8_act 24 = .ok (.ifCond .ne 5, 3) := by decide +kernel
theorem dX8_act_27 : decode cX8_act 27 = .ok (.iconst 0, 1) := by decide +kernel
theorem dX8_act_28 : decode cX8_act 28 = .ok (.ireturn, 1) := by decide +kernel
theorem dX8_act_29 : decode cX8_act 29 = .ok (.aload_n 0, 1) := by decide +kernel
theorem dX8_act_30 : decode cX8_act 30 = .ok (.getfield 69, 3) := by decide +kernel
theorem dX8_act_33 : decode cX8_act 33 = .ok (.aload_n 0, 1) := by decide +kernel
theorem dX8_act_34 : decode cX8_act 34 = .ok (.getfield 10, 3) := by decide +kernel
theorem dX8_act_37 : decode cX8_act 37 = .ok (.getfield 62, 3) := by decide +kernel
theorem dX8_act_40 : decode cX8_act 40 = .ok (.iload_n 1, 1) := by decide +kernel
theorem dX8_act_41 : decode cX8_act 41 = .ok (.aaload, 1) := by decide +kernel
theorem dX8_act_42 : decode cX8_act 42 = .ok (.iload_n 1, 1) := by decide +kernel
theorem dX8_act_43 : decode cX8_act 43 = .ok (.iload_n 2, 1) := by decide +kernel
theorem dX8_act_44 : decode cX8_act 44 = .ok (.iload_n 3, 1) := by decide +kernel
theorem dX8_act_45 : decode cX8_act 45 = .ok (.invokevirtual 331, 3) := by decide +kernel
theorem dX8_act_48 : decode cX8_act 48 = .ok (.ireturn, 1) := by decide +kernel
theorem dX8_trace_0 : decode cX8_trace 0 = .ok (.aload_n 0, 1) := by decide +kernel
theorem dX8_trace_1 : decode cX8_trace 1 = .ok (.getfield 69, 3) := by decide +kernel
theorem dX8_trace_4 : decode cX8_trace 4 = .ok (.iload_n 1, 1) := by decide +kernel
theorem dX8_trace_5 : decode cX8_trace 5 = .ok (.invokevirtual 335, 3) := by decide +kernel
theorem dX8_trace_8 : decode cX8_trace 8 = .ok (.ireturn, 1) := by decide +kernel
theorem dX8_image_0 : decode cX8_image 0 = .ok (.aload_n 0, 1) := by decide +kernel
theorem dX8_image_1 : decode cX8_image 1 = .ok (.getfield 16, 3) := by decide +kernel
theorem dX8_image_4 : decode cX8_image 4 = .ok (.aload_n 0, 1) := by decide +kernel
theorem dX8_image_5 : decode cX8_image 5 = .ok (.getfield 10, 3) := by decide +kernel
theorem dX8_image_8 : decode cX8_image 8 = .ok (.invokevirtual 203, 3) := by decide +kernel
theorem dX8_image_11 : decode cX8_image 11 = .ok (.aload_n 0, 1) := by decide +kernel
theorem dX8_image_12 : decode cX8_image 12 = .ok (.iconst 1, 1) := by decide +kernel
theorem dX8_image_13 : decode cX8_image 13 = .ok (.putfield 22, 3) := by decide +kernel
theorem dX8_image_16 : decode cX8_image 16 = .ok (.aload_n 0, 1) := by decide +kernel
theorem dX8_image_17 : decode cX8_image 17 = .ok (.getfield 10, 3) := by decide +kernel
theorem dX8_image_20 : decode cX8_image 20 = .ok (.getfield 319, 3) := by decide +kernel
theorem dX8_image_23 : decode cX8_image 23 = .ok (.ireturn, 1) := by decide +kernel
theorem dX8_restore_0 : decode cX8_restore 0 = .ok (.aload_n 0, 1) := by decide +kernel
theorem dX8_restore_1 : decode cX8_restore 1 = .ok (.getfield 22, 3) := by decide +kernel
theorem dX8_restore_4 : decode cX8_restore 4 = .ok (.ifCond .ne 10, 3) := by decide +kernel
theorem dX8_restore_7 : decode cX8_restore 7 = .ok (.aload_n 0, 1) := by decide +kernel
theorem dX8_restore_8 : decode cX8_restore 8 = .ok (.bipush 6, 2) := by decide +kernel
theorem dX8_restore_10 : decode cX8_restore 10 = .ok (.invokevirtual 77, 3) := by decide +kernel
theorem dX8_restore_13 : decode cX8_restore 13 = .ok (.ireturn, 1) := by decide +kernel
theorem dX8_restore_14 : decode cX8_restore 14 = .ok (.aload_n 0, 1) := by decide +kernel
theorem dX8_restore_15 : decode cX8_restore 15 = .ok (.getfield 10, 3) := by decide +kernel
theorem dX8_restore_18 : decode cX8_restore 18 = .ok (.aload_n 0, 1) := by decide +kernel
theorem dX8_restore_19 : decode cX8_restore 19 = .ok (.getfield 16, 3) := by decide +kernel
theorem dX8_restore_22 : decode cX8_restore 22 = .ok (.invokevirtual 203, 3) := by decide +kernel
theorem dX8_restore_25 : decode cX8_restore 25 = .ok (.iconst 0, 1) := by decide +kernel
theorem dX8_restore_26 : decode cX8_restore 26 = .ok (.istore_n 1, 1) := by decide +kernel
theorem dX8_restore_27 : decode cX8_restore 27 = .ok (.iload_n 1, 1) := by decide +kernel
theorem dX8_restore_28 : decode cX8_restore 28 = .ok (.bipush 8, 2) := by decide +kernel
theorem dX8_restore_30 : decode cX8_restore 30 = .ok (.if_icmp .ge 37, 3) := by decide +kernel
theorem dX8_restore_33 : decode cX8_restore 33 = .ok (.aload_n 0, 1) := by decide +kernel
theorem dX8_restore_34 : decode cX8_restore 34 = .ok (.getfield 10, 3) := by decide +kernel
theorem dX8_restore_37 : decode cX8_restore 37 = .ok (.aload_n 0, 1) := by decide +kernel
theorem dX8_restore_38 : decode cX8_restore 38 = .ok (.getfield 28, 3) := by decide +kernel
theorem dX8_restore_41 : decode cX8_restore 41 = .ok (.iload_n 1, 1) := by decide +kernel
theorem dX8_restore_42 : decode cX8_restore 42 = .ok (.aaload, 1) := by decide +kernel
theorem dX8_restore_43 : decode cX8_restore 43 = .ok (.getfield 135, 3) := by decide +kernel
theorem dX8_restore_46 : decode cX8_restore 46 = .ok (.invokevirtual 117, 3) := by decide +kernel
theorem dX8_restore_49 : decode cX8_restore 49 = .ok (.ifCond .ne 12, 3) := by decide +kernel
theorem dX8_restore_52 : decode cX8_restore 52 = .ok (.aload_n 0, 1) := by decide +kernel
theorem dX8_restore_53 : decode cX8_restore 53 = .ok (.getfield 28, 3) := by decide +kernel
theorem dX8_restore_56 : decode cX8_restore 56 = .ok (.iload_n 1, 1) := by decide +kernel
theorem dX8_restore_57 : decode cX8_restore 57 = .ok (.aaload, 1) := by decide +kernel
theorem dX8_restore_58 : decode cX8_restore 58 = .ok (.invokevirtual 338, 3) := by decide +kernel
theorem dX8_restore_61 : decode cX8_restore 61 = .ok (.iinc 1 1, 3) := by decide +kernel
theorem dX8_restore_64 : decode cX8_restore 64 = .ok (.goto (-37), 3) := by decide +kernel
theorem dX8_restore_67 : decode cX8_restore 67 = .ok (.aload_n 0, 1) := by decide +kernel
theorem dX8_restore_68 : decode cX8_restore 68 = .ok (.getfield 10, 3) := by decide +kernel
theorem dX8_restore_71 : decode cX8_restore 71 = .ok (.getfield 319, 3) := by decide +kernel
theorem dX8_restore_74 : decode cX8_restore 74 = .ok (.ireturn, 1) := by decide +kernel
theorem dX8_status_0 : decode cX8_status 0 = .ok (.iload_n 1, 1) := by decide +kernel
theorem dX8_status_1 : decode cX8_status 1 = .ok (.bipush 10, 2) := by decide +kernel
theorem dX8_status_3 : decode cX8_status 3 = .ok (.if_icmp .le 22, 3) := by decide +kernel
theorem dX8_status_6 : decode cX8_status 6 = .ok (.iload_n 1, 1) := by decide +kernel
theorem dX8_status_7 : decode cX8_status 7 = .ok (.bipush 10, 2) := by decide +kernel
theorem dX8_status_9 : decode cX8_status 9 = .ok (.isub, 1) := by decide +kernel
theorem dX8_status_10 : decode cX8_status 10 = .ok (.bipush 7, 2) := by decide +kernel
theorem dX8_status_12 : decode cX8_status 12 = .ok (.if_icmp .gt 13, 3) := by decide +kernel
theorem dX8_status_15 : decode cX8_status 15 = .ok (.aload_n 0, 1) := by decide +kernel
theorem dX8_status_16 : decode cX8_status 16 = .ok (.getfield 32, 3) := by decide +kernel
theorem dX8_status_19 : decode cX8_status 19 = .ok (.iload_n 1, 1) := by decide +kernel
theorem dX8_status_20 : decode cX8_status 20 = .ok (.bipush 10, 2) := by decide +kernel
theorem dX8_status_22 : decode cX8_status 22 = .ok (.isub, 1) := by decide +kernel
theorem dX8_status_23 : decode cX8_status 23 = .ok (.iaload, 1) := by decide +kernel
theorem dX8_status_24 : decode cX8_status 24 = .ok (.ireturn, 1) := by decide +kernel
theorem dX8_status_25 : decode cX8_status 25 = .ok (.iload_n 1, 1) := by decide +kernel
theorem dX8_status_26 : decode cX8_status 26 = .ok (.tableswitch 122 0 8 #[50, 58, 66, 74, 82, 90, 98, 106, 114], 50) := by decide +kernel
theorem dX8_status_76 : decode cX8_status 76 = .ok (.aload_n 0, 1) := by decide +kernel
theorem dX8_status_77 : decode cX8_status 77 = .ok (.getfield 10, 3) := by decide +kernel
theorem dX8_status_80 : decode cX8_status 80 = .ok (.getfield 319, 3) := by decide +kernel
theorem dX8_status_83 : decode cX8_status 83 = .ok (.ireturn, 1) := by decide +kernel
theorem dX8_status_84 : decode cX8_status 84 = .ok (.aload_n 0, 1) := by decide +kernel
theorem dX8_status_85 : decode cX8_status 85 = .ok (.getfield 10, 3) := by decide +kernel
theorem dX8_status_88 : decode cX8_status 88 = .ok (.getfield 238, 3) := by decide +kernel
theorem dX8_status_91 : decode cX8_status 91 = .ok (.ireturn, 1) := by decide +kernel
theorem dX8_status_92 : decode cX8_status 92 = .ok (.aload_n 0, 1) := by decide +kernel
theorem dX8_status_93 : decode cX8_status 93 = .ok (.getfield 10, 3) := by decide +kernel
theorem dX8_status_96 : decode cX8_status 96 = .ok (.invokevirtual 341, 3) := by decide +kernel
theorem dX8_status_99 : decode cX8_status 99 = .ok (.ireturn, 1) := by decide +kernel
theorem dX8_status_100 : decode cX8_status 100 = .ok (.aload_n 0, 1) := by decide +kernel
theorem dX8_status_101 : decode cX8_status 101 = .ok (.getfield 10, 3) := by decide +kernel
theorem dX8_status_104 : decode cX8_status 104 = .ok (.invokevirtual 288, 3) := by decide +kernel
theorem dX8_status_107 : decode cX8_status 107 = .ok (.ireturn, 1) := by decide +kernel
theorem dX8_status_108 : decode cX8_status 108 = .ok (.aload_n 0, 1) := by decide +kernel
theorem dX8_status_109 : decode cX8_status 109 = .ok (.getfield 10, 3) := by decide +kernel
theorem dX8_status_112 : decode cX8_status 112 = .ok (.getfield 297, 3) := by decide +kernel
theorem dX8_status_115 : decode cX8_status 115 = .ok (.ireturn, 1) := by decide +kernel
theorem dX8_status_116 : decode cX8_status 116 = .ok (.aload_n 0, 1) := by decide +kernel
theorem dX8_status_117 : decode cX8_status 117 = .ok (.getfield 10, 3) := by decide +kernel
theorem dX8_status_120 : decode cX8_status 120 = .ok (.getfield 307, 3) := by decide +kernel
theorem dX8_status_123 : decode cX8_status 123 = .ok (.ireturn, 1) := by decide +kernel
theorem dX8_status_124 : decode cX8_status 124 = .ok (.aload_n 0, 1) := by decide +kernel
theorem dX8_status_125 : decode cX8_status 125 = .ok (.getfield 10, 3) := by decide +kernel
theorem dX8_status_128 : decode cX8_status 128 = .ok (.getfield 344, 3) := by decide +kernel
theorem dX8_status_131 : decode cX8_status 131 = .ok (.ireturn, 1) := by decide +kernel
theorem dX8_status_132 : decode cX8_status 132 = .ok (.aload_n 0, 1) := by decide +kernel
theorem dX8_status_133 : decode cX8_status 133 = .ok (.getfield 10, 3) := by decide +kernel
theorem dX8_status_136 : decode cX8_status 136 = .ok (.getfield 325, 3) := by decide +kernel
theorem dX8_status_139 : decode cX8_status 139 = .ok (.ireturn, 1) := by decide +kernel
theorem dX8_status_140 : decode cX8_status 140 = .ok (.aload_n 0, 1) := by decide +kernel
theorem dX8_status_141 : decode cX8_status 141 = .ok (.getfield 69, 3) := by decide +kernel
theorem dX8_status_144 : decode cX8_status 144 = .ok (.getfield 347, 3) := by decide +kernel
theorem dX8_status_147 : decode cX8_status 147 = .ok (.ireturn, 1) := by decide +kernel
theorem dX8_status_148 : decode cX8_status 148 = .ok (.iconst (-1), 1) := by decide +kernel
theorem dX8_status_149 : decode cX8_status 149 = .ok (.ireturn, 1) := by decide +kernel
theorem dX8_refuse_0 : decode cX8_refuse 0 = .ok (.iload_n 1, 1) := by decide +kernel
theorem dX8_refuse_1 : decode cX8_refuse 1 = .ok (.iconst 1, 1) := by decide +kernel
theorem dX8_refuse_2 : decode cX8_refuse 2 = .ok (.bipush 7, 2) := by decide +kernel
theorem dX8_refuse_4 : decode cX8_refuse 4 = .ok (.invokestatic 81, 3) := by decide +kernel
theorem dX8_refuse_7 : decode cX8_refuse 7 = .ok (.ifCond .eq 13, 3) := by decide +kernel
theorem dX8_refuse_10 : decode cX8_refuse 10 = .ok (.aload_n 0, 1) := by decide +kernel
theorem dX8_refuse_11 : decode cX8_refuse 11 = .ok (.getfield 32, 3) := by decide +kernel
theorem dX8_refuse_14 : decode cX8_refuse 14 = .ok (.iload_n 1, 1) := by decide +kernel
theorem dX8_refuse_15 : decode cX8_refuse 15 = .ok (.dup2, 1) := by decide +kernel
theorem dX8_refuse_16 : decode cX8_refuse 16 = .ok (.iaload, 1) := by decide +kernel
theorem dX8_refuse_17 : decode cX8_refuse 17 = .ok (.iconst 1, 1) := by decide +kernel
theorem dX8_refuse_18 : decode cX8_refuse 18 = .ok (.iadd, 1) := by decide +kernel
theorem dX8_refuse_19 : decode cX8_refuse 19 = .ok (.iastore, 1) := by decide +kernel
theorem dX8_refuse_20 : decode cX8_refuse 20 = .ok (.iload_n 1, 1) := by decide +kernel
theorem dX8_refuse_21 : decode cX8_refuse 21 = .ok (.ineg, 1) := by decide +kernel
theorem dX8_refuse_22 : decode cX8_refuse 22 = .ok (.ireturn, 1) := by decide +kernel
theorem dX8_refuseApart_0 : decode cX8_refuseApart 0 = .ok (.aload_n 0, 1) := by decide +kernel
theorem dX8_refuseApart_1 : decode cX8_refuseApart 1 = .ok (.iload_n 1, 1) := by decide +kernel
theorem dX8_refuseApart_2 : decode cX8_refuseApart 2 = .ok (.invokevirtual 77, 3) := by decide +kernel
theorem dX8_refuseApart_5 : decode cX8_refuseApart 5 = .ok (.bipush 10, 2) := by decide +kernel
theorem dX8_refuseApart_7 : decode cX8_refuseApart 7 = .ok (.isub, 1) := by decide +kernel
theorem dX8_refuseApart_8 : decode cX8_refuseApart 8 = .ok (.ireturn, 1) := by decide +kernel
theorem dX8_within_0 : decode cX8_within 0 = .ok (.iload_n 0, 1) := by decide +kernel
theorem dX8_within_1 : decode cX8_within 1 = .ok (.iload_n 1, 1) := by decide +kernel
theorem dX8_within_2 : decode cX8_within 2 = .ok (.if_icmp .lt 12, 3) := by decide +kernel
theorem dX8_within_5 : decode cX8_within 5 = .ok (.iload_n 0, 1) := by decide +kernel
theorem dX8_within_6 : decode cX8_within 6 = .ok (.iload_n 2, 1) := by decide +kernel
theorem dX8_within_7 : decode cX8_within 7 = .ok (.if_icmp .gt 7, 3) := by decide +kernel
theorem dX8_within_10 : decode cX8_within 10 = .ok (.iconst 1, 1) := by decide +kernel
theorem dX8_within_11 : decode cX8_within 11 = .ok (.goto 4, 3) := by decide +kernel
theorem dX8_within_14 : decode cX8_within 14 = .ok (.iconst 0, 1) := by decide +kernel
theorem dX8_within_15 : decode cX8_within 15 = .ok (.ireturn, 1) := by decide +kernel
theorem dX8_isFigure_0 : decode cX8_isFigure 0 = .ok (.iload_n 0, 1) := by decide +kernel
theorem dX8_isFigure_1 : decode cX8_isFigure 1 = .ok (.iconst 0, 1) := by decide +kernel
theorem dX8_isFigure_2 : decode cX8_isFigure 2 = .ok (.bipush 9, 2) := by decide +kernel
theorem dX8_isFigure_4 : decode cX8_isFigure 4 = .ok (.invokestatic 81, 3) := by decide +kernel
theorem dX8_isFigure_7 : decode cX8_isFigure 7 = .ok (.ireturn, 1) := by decide +kernel
theorem dX8_isSide_0 : decode cX8_isSide 0 = .ok (.iload_n 0, 1) := by decide +kernel
theorem dX8_isSide_1 : decode cX8_isSide 1 = .ok (.iconst 0, 1) := by decide +kernel
theorem dX8_isSide_2 : decode cX8_isSide 2 = .ok (.iconst 1, 1) := by decide +kernel
theorem dX8_isSide_3 : decode cX8_isSide 3 = .ok (.invokestatic 81, 3) := by decide +kernel
theorem dX8_isSide_6 : decode cX8_isSide 6 = .ok (.ireturn, 1) := by decide +kernel
theorem dX8_isShelf_0 : decode cX8_isShelf 0 = .ok (.iload_n 0, 1) := by decide +kernel
theorem dX8_isShelf_1 : decode cX8_isShelf 1 = .ok (.iconst 0, 1) := by decide +kernel
theorem dX8_isShelf_2 : decode cX8_isShelf 2 = .ok (.bipush 7, 2) := by decide +kernel
theorem dX8_isShelf_4 : decode cX8_isShelf 4 = .ok (.invokestatic 81, 3) := by decide +kernel
theorem dX8_isShelf_7 : decode cX8_isShelf 7 = .ok (.ireturn, 1) := by decide +kernel
theorem dX8_barToRow_0 : decode cX8_barToRow 0 = .ok (.iload_n 1, 1) := by decide +kernel
theorem dX8_barToRow_1 : decode cX8_barToRow 1 = .ok (.invokestatic 73, 3) := by decide +kernel
theorem dX8_barToRow_4 : decode cX8_barToRow 4 = .ok (.ifCond .ne 5, 3) := by decide +kernel
theorem dX8_barToRow_7 : decode cX8_barToRow 7 = .ok (.iconst 1, 1) := by decide +kernel
theorem dX8_barToRow_8 : decode cX8_barToRow 8 = .ok (.ireturn, 1) := by decide +kernel
theorem dX8_barToRow_9 : decode cX8_barToRow 9 = .ok (.aload_n 0, 1) := by decide +kernel
theorem dX8_barToRow_10 : decode cX8_barToRow 10 = .ok (.getfield 28, 3) := by decide +kernel
theorem dX8_barToRow_13 : decode cX8_barToRow 13 = .ok (.iload_n 1, 1) := by decide +kernel
theorem dX8_barToRow_14 : decode cX8_barToRow 14 = .ok (.aaload, 1) := by decide +kernel
theorem dX8_barToRow_15 : decode cX8_barToRow 15 = .ok (.invokevirtual 350, 3) := by decide +kernel
theorem dX8_barToRow_18 : decode cX8_barToRow 18 = .ok (.ifCond .eq 5, 3) := by decide +kernel
theorem dX8_barToRow_21 : decode cX8_barToRow 21 = .ok (.iconst 2, 1) := by decide +kernel
theorem dX8_barToRow_22 : decode cX8_barToRow 22 = .ok (.ireturn, 1) := by decide +kernel
theorem dX8_barToRow_23 : decode cX8_barToRow 23 = .ok (.aload_n 0, 1) := by decide +kernel
theorem dX8_barToRow_24 : decode cX8_barToRow 24 = .ok (.getfield 28, 3) := by decide +kernel
theorem dX8_barToRow_27 : decode cX8_barToRow 27 = .ok (.iload_n 1, 1) := by decide +kernel
theorem dX8_barToRow_28 : decode cX8_barToRow 28 = .ok (.aaload, 1) := by decide +kernel
theorem dX8_barToRow_29 : decode cX8_barToRow 29 = .ok (.invokevirtual 127, 3) := by decide +kernel
theorem dX8_barToRow_32 : decode cX8_barToRow 32 = .ok (.ifCond .eq 7, 3) := by decide +kernel
theorem dX8_barToRow_35 : decode cX8_barToRow 35 = .ok (.iconst 0, 1) := by decide +kernel
theorem dX8_barToRow_36 : decode cX8_barToRow 36 = .ok (.goto 4, 3) := by decide +kernel
theorem dX8_barToRow_39 : decode cX8_barToRow 39 = .ok (.iconst 3, 1) := by decide +kernel
theorem dX8_barToRow_40 : decode cX8_barToRow 40 = .ok (.ireturn, 1) := by decide +kernel
theorem dX8_barToCopy_0 : decode cX8_barToCopy 0 = .ok (.iload_n 1, 1) := by decide +kernel
theorem dX8_barToCopy_1 : decode cX8_barToCopy 1 = .ok (.invokestatic 73, 3) := by decide +kernel
theorem dX8_barToCopy_4 : decode cX8_barToCopy 4 = .ok (.ifCond .eq 10, 3) := by decide +kernel
theorem dX8_barToCopy_7 : decode cX8_barToCopy 7 = .ok (.iload_n 2, 1) := by decide +kernel
theorem dX8_barToCopy_8 : decode cX8_barToCopy 8 = .ok (.invokestatic 73, 3) := by decide +kernel
theorem dX8_barToCopy_11 : decode cX8_barToCopy 11 = .ok (.ifCond .ne 5, 3) := by decide +kernel
theorem dX8_barToCopy_14 : decode cX8_barToCopy 14 = .ok (.iconst 1, 1) := by decide +kernel
theorem dX8_barToCopy_15 : decode cX8_barToCopy 15 = .ok (.ireturn, 1) := by decide +kernel
theorem dX8_barToCopy_16 : decode cX8_barToCopy 16 = .ok (.aload_n 0, 1) := by decide +kernel
theorem dX8_barToCopy_17 : decode cX8_barToCopy 17 = .ok (.getfield 28, 3) := by decide +kernel
theorem dX8_barToCopy_20 : decode cX8_barToCopy 20 = .ok (.iload_n 1, 1) := by decide +kernel
theorem dX8_barToCopy_21 : decode cX8_barToCopy 21 = .ok (.aaload, 1) := by decide +kernel
theorem dX8_barToCopy_22 : decode cX8_barToCopy 22 = .ok (.astore_n 3, 1) := by decide +kernel
theorem dX8_barToCopy_23 : decode cX8_barToCopy 23 = .ok (.aload_n 0, 1) := by decide +kernel
theorem dX8_barToCopy_24 : decode cX8_barToCopy 24 = .ok (.getfield 28, 3) := by decide +kernel
theorem dX8_barToCopy_27 : decode cX8_barToCopy 27 = .ok (.iload_n 2, 1) := by decide +kernel
theorem dX8_barToCopy_28 : decode cX8_barToCopy 28 = .ok (.aaload, 1) := by decide +kernel
theorem dX8_barToCopy_29 : decode cX8_barToCopy 29 = .ok (.astore 4, 2) := by decide +kernel
theorem dX8_barToCopy_31 : decode cX8_barToCopy 31 = .ok (.aload_n 3, 1) := by decide +kernel
theorem dX8_barToCopy_32 : decode cX8_barToCopy 32 = .ok (.invokevirtual 350, 3) := by decide +kernel
theorem dX8_barToCopy_35 : decode cX8_barToCopy 35 = .ok (.ifCond .ne 11, 3) := by decide +kernel
theorem dX8_barToCopy_38 : decode cX8_barToCopy 38 = .ok (.aload 4, 2) := by decide +kernel
theorem dX8_barToCopy_40 : decode cX8_barToCopy 40 = .ok (.invokevirtual 350, 3) := by decide +kernel
theorem dX8_barToCopy_43 : decode cX8_barToCopy 43 = .ok (.ifCond .eq 5, 3) := by decide +kernel
theorem dX8_barToCopy_46 : decode cX8_barToCopy 46 = .ok (.iconst 2, 1) := by decide +kernel
theorem dX8_barToCopy_47 : decode cX8_barToCopy 47 = .ok (.ireturn, 1) := by decide +kernel
theorem dX8_barToCopy_48 : decode cX8_barToCopy 48 = .ok (.aload_n 3, 1) := by decide +kernel
theorem dX8_barToCopy_49 : decode cX8_barToCopy 49 = .ok (.invokevirtual 127, 3) := by decide +kernel
theorem dX8_barToCopy_52 : decode cX8_barToCopy 52 = .ok (.ifCond .eq 11, 3) := by decide +kernel
theorem dX8_barToCopy_55 : decode cX8_barToCopy 55 = .ok (.aload 4, 2) := by decide +kernel
theorem dX8_barToCopy_57 : decode cX8_barToCopy 57 = .ok (.invokevirtual 127, 3) := by decide +kernel
theorem dX8_barToCopy_60 : decode cX8_barToCopy 60 = .ok (.ifCond .ne 5, 3) := by decide +kernel
theorem dX8_barToCopy_63 : decode cX8_barToCopy 63 = .ok (.iconst 3, 1) := by decide +kernel
theorem dX8_barToCopy_64 : decode cX8_barToCopy 64 = .ok (.ireturn, 1) := by decide +kernel
theorem dX8_barToCopy_65 : decode cX8_barToCopy 65 = .ok (.aload_n 3, 1) := by decide +kernel
theorem dX8_barToCopy_66 : decode cX8_barToCopy 66 = .ok (.getfield 131, 3) := by decide +kernel
theorem dX8_barToCopy_69 : decode cX8_barToCopy 69 = .ok (.aload 4, 2) := by decide +kernel
theorem dX8_barToCopy_71 : decode cX8_barToCopy 71 = .ok (.getfield 131, 3) := by decide +kernel
theorem dX8_barToCopy_74 : decode cX8_barToCopy 74 = .ok (.if_icmp .ne 7, 3) := by decide +kernel
theorem dX8_barToCopy_77 : decode cX8_barToCopy 77 = .ok (.iconst 0, 1) := by decide +kernel
theorem dX8_barToCopy_78 : decode cX8_barToCopy 78 = .ok (.goto 4, 3) := by decide +kernel
theorem dX8_barToCopy_81 : decode cX8_barToCopy 81 = .ok (.iconst 2, 1) := by decide +kernel
theorem dX8_barToCopy_82 : decode cX8_barToCopy 82 = .ok (.ireturn, 1) := by decide +kernel
theorem dX8_barToSide_0 : decode cX8_barToSide 0 = .ok (.aload_n 0, 1) := by decide +kernel
theorem dX8_barToSide_1 : decode cX8_barToSide 1 = .ok (.getfield 10, 3) := by decide +kernel
theorem dX8_barToSide_4 : decode cX8_barToSide 4 = .ok (.iload_n 1, 1) := by decide +kernel
theorem dX8_barToSide_5 : decode cX8_barToSide 5 = .ok (.invokevirtual 174, 3) := by decide +kernel
theorem dX8_barToSide_8 : decode cX8_barToSide 8 = .ok (.ifCond .ne 5, 3) := by decide +kernel
theorem dX8_barToSide_11 : decode cX8_barToSide 11 = .ok (.iconst 1, 1) := by decide +kernel
theorem dX8_barToSide_12 : decode cX8_barToSide 12 = .ok (.ireturn, 1) := by decide +kernel
theorem dX8_barToSide_13 : decode cX8_barToSide 13 = .ok (.iload_n 2, 1) := by decide +kernel
theorem dX8_barToSide_14 : decode cX8_barToSide 14 = .ok (.invokestatic 149, 3) := by decide +kernel
theorem dX8_barToSide_17 : decode cX8_barToSide 17 = .ok (.ifCond .eq 7, 3) := by decide +kernel
theorem dX8_barToSide_20 : decode cX8_barToSide 20 = .ok (.iconst 0, 1) := by decide +kernel
theorem dX8_barToSide_21 : decode cX8_barToSide 21 = .ok (.goto 5, 3) := by decide +kernel
theorem dX8_barToSide_24 : decode cX8_barToSide 24 = .ok (.bipush 6, 2) := by decide +kernel
theorem dX8_barToSide_26 : decode cX8_barToSide 26 = .ok (.ireturn, 1) := by decide +kernel
theorem dX8_barToDay_0 : decode cX8_barToDay 0 = .ok (.aload_n 0, 1) := by decide +kernel
theorem dX8_barToDay_1 : decode cX8_barToDay 1 = .ok (.iload_n 1, 1) := by decide +kernel
theorem dX8_barToDay_2 : decode cX8_barToDay 2 = .ok (.invokevirtual 89, 3) := by decide +kernel
theorem dX8_barToDay_5 : decode cX8_barToDay 5 = .ok (.istore_n 3, 1) := by decide +kernel
theorem dX8_barToDay_6 : decode cX8_barToDay 6 = .ok (.iload_n 3, 1) := by decide +kernel
theorem dX8_barToDay_7 : decode cX8_barToDay 7 = .ok (.ifCond .eq 5, 3) := by decide +kernel
theorem dX8_barToDay_10 : decode cX8_barToDay 10 = .ok (.iload_n 3, 1) := by decide +kernel
theorem dX8_barToDay_11 : decode cX8_barToDay 11 = .ok (.ireturn, 1) := by decide +kernel
theorem dX8_barToDay_12 : decode cX8_barToDay 12 = .ok (.iload_n 2, 1) := by decide +kernel
theorem dX8_barToDay_13 : decode cX8_barToDay 13 = .ok (.ifCond .ge 5, 3) := by decide +kernel
theorem dX8_barToDay_16 : decode cX8_barToDay 16 = .ok (.iconst 4, 1) := by decide +kernel
theorem dX8_barToDay_17 : decode cX8_barToDay 17 = .ok (.ireturn, 1) := by decide +kernel
theorem dX8_barToDay_18 : decode cX8_barToDay 18 = .ok (.iload_n 2, 1) := by decide +kernel
theorem dX8_barToDay_19 : decode cX8_barToDay 19 = .ok (.aload_n 0, 1) := by decide +kernel
theorem dX8_barToDay_20 : decode cX8_barToDay 20 = .ok (.getfield 28, 3) := by decide +kernel
theorem dX8_barToDay_23 : decode cX8_barToDay 23 = .ok (.iload_n 1, 1) := by decide +kernel
theorem dX8_barToDay_24 : decode cX8_barToDay 24 = .ok (.aaload, 1) := by decide +kernel
theorem dX8_barToDay_25 : decode cX8_barToDay 25 = .ok (.getfield 268, 3) := by decide +kernel
theorem dX8_barToDay_28 : decode cX8_barToDay 28 = .ok (.iconst 2, 1) := by decide +kernel
theorem dX8_barToDay_29 : decode cX8_barToDay 29 = .ok (.idiv, 1) := by decide +kernel
theorem dX8_barToDay_30 : decode cX8_barToDay 30 = .ok (.if_icmp .le 5, 3) := by decide +kernel
theorem dX8_barToDay_33 : decode cX8_barToDay 33 = .ok (.iconst 5, 1) := by decide +kernel
theorem dX8_barToDay_34 : decode cX8_barToDay 34 = .ok (.ireturn, 1) := by decide +kernel
theorem dX8_barToDay_35 : decode cX8_barToDay 35 = .ok (.iload_n 2, 1) := by decide +kernel
theorem dX8_barToDay_36 : decode cX8_barToDay 36 = .ok (.bipush 20, 2) := by decide +kernel
theorem dX8_barToDay_38 : decode cX8_barToDay 38 = .ok (.if_icmp .le 8, 3) := by decide +kernel
theorem dX8_barToDay_41 : decode cX8_barToDay 41 = .ok (.bipush 6, 2) := by decide +kernel
theorem dX8_barToDay_43 : decode cX8_barToDay 43 = .ok (.goto 4, 3) := by decide +kernel
theorem dX8_barToDay_46 : decode cX8_barToDay 46 = .ok (.iconst 0, 1) := by decide +kernel
theorem dX8_barToDay_47 : decode cX8_barToDay 47 = .ok (.ireturn, 1) := by decide +kernel
theorem dX8_tellDay_0 : decode cX8_tellDay 0 = .ok (.aload_n 0, 1) := by decide +kernel
theorem dX8_tellDay_1 : decode cX8_tellDay 1 = .ok (.getfield 19, 3) := by decide +kernel
theorem dX8_tellDay_4 : decode cX8_tellDay 4 = .ok (.aload_n 0, 1) := by decide +kernel
theorem dX8_tellDay_5 : decode cX8_tellDay 5 = .ok (.getfield 10, 3) := by decide +kernel
theorem dX8_tellDay_8 : decode cX8_tellDay 8 = .ok (.invokevirtual 203, 3) := by decide +kernel
theorem dX8_tellDay_11 : decode cX8_tellDay 11 = .ok (.iconst 0, 1) := by decide +kernel
theorem dX8_tellDay_12 : decode cX8_tellDay 12 = .ok (.istore_n 3, 1) := by decide +kernel
theorem dX8_tellDay_13 : decode cX8_tellDay 13 = .ok (.iload_n 3, 1) := by decide +kernel
theorem dX8_tellDay_14 : decode cX8_tellDay 14 = .ok (.iload_n 2, 1) := by decide +kernel
theorem dX8_tellDay_15 : decode cX8_tellDay 15 = .ok (.if_icmp .ge 106, 3) := by decide +kernel
theorem dX8_tellDay_18 : decode cX8_tellDay 18 = .ok (.aload_n 1, 1) := by decide +kernel
theorem dX8_tellDay_19 : decode cX8_tellDay 19 = .ok (.iconst 2, 1) := by decide +kernel
theorem dX8_tellDay_20 : decode cX8_tellDay 20 = .ok (.iload_n 3, 1) := by decide +kernel
theorem dX8_tellDay_21 : decode cX8_tellDay 21 = .ok (.imul, 1) := by decide +kernel
theorem dX8_tellDay_22 : decode cX8_tellDay 22 = .ok (.invokevirtual 353, 3) := by decide +kernel
theorem dX8_tellDay_25 : decode cX8_tellDay 25 = .ok (.istore 4, 2) := by decide +kernel
theorem dX8_tellDay_27 : decode cX8_tellDay 27 = .ok (.aload_n 1, 1) := by decide +kernel
theorem dX8_tellDay_28 : decode cX8_tellDay 28 = .ok (.iconst 2, 1) := by decide +kernel
theorem dX8_tellDay_29 : decode cX8_tellDay 29 = .ok (.iload_n 3, 1) := by decide +kernel
theorem dX8_tellDay_30 : decode cX8_tellDay 30 = .ok (.imul, 1) := by decide +kernel
theorem dX8_tellDay_31 : decode cX8_tellDay 31 = .ok (.iconst 1, 1) := by decide +kernel
theorem dX8_tellDay_32 : decode cX8_tellDay 32 = .ok (.iadd, 1) := by decide +kernel
theorem dX8_tellDay_33 : decode cX8_tellDay 33 = .ok (.invokevirtual 353, 3) := by decide +kernel
theorem dX8_tellDay_36 : decode cX8_tellDay 36 = .ok (.istore 5, 2) := by decide +kernel
theorem dX8_tellDay_38 : decode cX8_tellDay 38 = .ok (.iload 5, 2) := by decide +kernel
theorem dX8_tellDay_40 : decode cX8_tellDay 40 = .ok (.bipush 10, 2) := by decide +kernel
theorem dX8_tellDay_42 : decode cX8_tellDay 42 = .ok (.idiv, 1) := by decide +kernel
theorem dX8_tellDay_43 : decode cX8_tellDay 43 = .ok (.istore 6, 2) := by decide +kernel
theorem dX8_tellDay_45 : decode cX8_tellDay 45 = .ok (.iload 5, 2) := by decide +kernel
theorem dX8_tellDay_47 : decode cX8_tellDay 47 = .ok (.bipush 10, 2) := by decide +kernel
theorem dX8_tellDay_49 : decode cX8_tellDay 49 = .ok (.irem, 1) := by decide +kernel
theorem dX8_tellDay_50 : decode cX8_tellDay 50 = .ok (.istore 7, 2) := by decide +kernel
theorem dX8_tellDay_52 : decode cX8_tellDay 52 = .ok (.aload_n 0, 1) := by decide +kernel
theorem dX8_tellDay_53 : decode cX8_tellDay 53 = .ok (.getfield 19, 3) := by decide +kernel
theorem dX8_tellDay_56 : decode cX8_tellDay 56 = .ok (.iload 4, 2) := by decide +kernel
theorem dX8_tellDay_58 : decode cX8_tellDay 58 = .ok (.invokevirtual 117, 3) := by decide +kernel
theorem dX8_tellDay_61 : decode cX8_tellDay 61 = .ok (.ifCond .eq 39, 3) := by decide +kernel
theorem dX8_tellDay_64 : decode cX8_tellDay 64 = .ok (.aload_n 0, 1) := by decide +kernel
theorem dX8_tellDay_65 : decode cX8_tellDay 65 = .ok (.getfield 19, 3) := by decide +kernel
theorem dX8_tellDay_68 : decode cX8_tellDay 68 = .ok (.iload 6, 2) := by decide +kernel
theorem dX8_tellDay_70 : decode cX8_tellDay 70 = .ok (.invokevirtual 174, 3) := by decide +kernel
theorem dX8_tellDay_73 : decode cX8_tellDay 73 = .ok (.ifCond .eq 27, 3) := by decide +kernel
theorem dX8_tellDay_76 : decode cX8_tellDay 76 = .ok (.iload 7, 2) := by decide +kernel
theorem dX8_tellDay_78 : decode cX8_tellDay 78 = .ok (.invokestatic 149, 3) := by decide +kernel
theorem dX8_tellDay_81 : decode cX8_tellDay 81 = .ok (.ifCond .eq 19, 3) := by decide +kernel
theorem dX8_tellDay_84 : decode cX8_tellDay 84 = .ok (.aload_n 0, 1) := by decide +kernel
theorem dX8_tellDay_85 : decode cX8_tellDay 85 = .ok (.getfield 19, 3) := by decide +kernel
theorem dX8_tellDay_88 : decode cX8_tellDay 88 = .ok (.iload 4, 2) := by decide +kernel
theorem dX8_tellDay_90 : decode cX8_tellDay 90 = .ok (.iload 6, 2) := by decide +kernel
theorem dX8_tellDay_92 : decode cX8_tellDay 92 = .ok (.iload 7, 2) := by decide +kernel
theorem dX8_tellDay_94 : decode cX8_tellDay 94 = .ok (.invokevirtual 300, 3) := by decide +kernel
theorem dX8_tellDay_97 : decode cX8_tellDay 97 = .ok (.ifCond .ne 5, 3) := by decide +kernel
theorem dX8_tellDay_100 : decode cX8_tellDay 100 = .ok (.iload_n 3, 1) := by decide +kernel
theorem dX8_tellDay_101 : decode cX8_tellDay 101 = .ok (.ireturn, 1) := by decide +kernel
theorem dX8_tellDay_102 : decode cX8_tellDay 102 = .ok (.aload_n 0, 1) := by decide +kernel
theorem dX8_tellDay_103 : decode cX8_tellDay 103 = .ok (.getfield 19, 3) := by decide +kernel
theorem dX8_tellDay_106 : decode cX8_tellDay 106 = .ok (.iload 4, 2) := by decide +kernel
theorem dX8_tellDay_108 : decode cX8_tellDay 108 = .ok (.iload 6, 2) := by decide +kernel
theorem dX8_tellDay_110 : decode cX8_tellDay 110 = .ok (.iload 7, 2) := by decide +kernel
theorem dX8_tellDay_112 : decode cX8_tellDay 112 = .ok (.invokevirtual 303, 3) := by decide +kernel
theorem dX8_tellDay_115 : decode cX8_tellDay 115 = .ok (.iinc 3 1, 3) := by decide +kernel
theorem dX8_tellDay_118 : decode cX8_tellDay 118 = .ok (.goto (-105), 3) := by decide +kernel
theorem dX8_tellDay_121 : decode cX8_tellDay 121 = .ok (.iconst (-1), 1) := by decide +kernel
theorem dX8_tellDay_122 : decode cX8_tellDay 122 = .ok (.ireturn, 1) := by decide +kernel
theorem dX8_looksAllowed_0 : decode cX8_looksAllowed 0 = .ok (.iconst 0, 1) := by decide +kernel
theorem dX8_looksAllowed_1 : decode cX8_looksAllowed 1 = .ok (.istore 4, 2) := by decide +kernel
theorem dX8_looksAllowed_3 : decode cX8_looksAllowed 3 = .ok (.iconst 0, 1) := by decide +kernel
theorem dX8_looksAllowed_4 : decode cX8_looksAllowed 4 = .ok (.istore 5, 2) := by decide +kernel
theorem dX8_looksAllowed_6 : decode cX8_looksAllowed 6 = .ok (.iload 5, 2) := by decide +kernel
theorem dX8_looksAllowed_8 : decode cX8_looksAllowed 8 = .ok (.bipush 9, 2) := by decide +kernel
theorem dX8_looksAllowed_10 : decode cX8_looksAllowed 10 = .ok (.if_icmp .gt 116, 3) := by decide +kernel
theorem dX8_looksAllowed_13 : decode cX8_looksAllowed 13 = .ok (.iload_n 3, 1) := by decide +kernel
theorem dX8_looksAllowed_14 : decode cX8_looksAllowed 14 = .ok (.ifCond .eq 8, 3) := by decide +kernel
theorem dX8_looksAllowed_17 : decode cX8_looksAllowed 17 = .ok (.iload 5, 2) := by decide +kernel
theorem dX8_looksAllowed_19 : decode cX8_looksAllowed 19 = .ok (.goto 7, 3) := by decide +kernel
theorem dX8_looksAllowed_22 : decode cX8_looksAllowed 22 = .ok (.aload_n 2, 1) := by decide +kernel
theorem dX8_looksAllowed_23 : decode cX8_looksAllowed 23 = .ok (.getfield 168, 3) := by decide +kernel
theorem dX8_looksAllowed_26 : decode cX8_looksAllowed 26 = .ok (.istore 6, 2) := by decide +kernel
theorem dX8_looksAllowed_28 : decode cX8_looksAllowed 28 = .ok (.iload_n 3, 1) := by decide +kernel
theorem dX8_looksAllowed_29 : decode cX8_looksAllowed 29 = .ok (.ifCond .eq 10, 3) := by decide +kernel
theorem dX8_looksAllowed_32 : decode cX8_looksAllowed 32 = .ok (.aload_n 2, 1) := by decide +kernel
theorem dX8_looksAllowed_33 : decode cX8_looksAllowed 33 = .ok (.getfield 171, 3) := by decide +kernel
theorem dX8_looksAllowed_36 : decode cX8_looksAllowed 36 = .ok (.goto 5, 3) := by decide +kernel
theorem dX8_looksAllowed_39 : decode cX8_looksAllowed 39 = .ok (.iload 5, 2) := by decide +kernel
theorem dX8_looksAllowed_41 : decode cX8_looksAllowed 41 = .ok (.istore 7, 2) := by decide +kernel
theorem dX8_looksAllowed_43 : decode cX8_looksAllowed 43 = .ok (.iconst 1, 1) := by decide +kernel
theorem dX8_looksAllowed_44 : decode cX8_looksAllowed 44 = .ok (.istore 8, 2) := by decide +kernel
theorem dX8_looksAllowed_46 : decode cX8_looksAllowed 46 = .ok (.iconst 0, 1) := by decide +kernel
theorem dX8_looksAllowed_47 : decode cX8_looksAllowed 47 = .ok (.istore 9, 2) := by decide +kernel
theorem dX8_looksAllowed_49 : decode cX8_looksAllowed 49 = .ok (.iload 9, 2) := by decide +kernel
theorem dX8_looksAllowed_51 : decode cX8_looksAllowed 51 = .ok (.aload_n 0, 1) := by decide +kernel
theorem dX8_looksAllowed_52 : decode cX8_looksAllowed 52 = .ok (.getfield 10, 3) := by decide +kernel
theorem dX8_looksAllowed_55 : decode cX8_looksAllowed 55 = .ok (.getfield 238, 3) := by decide +kernel
theorem dX8_looksAllowed_58 : decode cX8_looksAllowed 58 = .ok (.if_icmp .ge 48, 3) := by decide +kernel
theorem dX8_looksAllowed_61 : decode cX8_looksAllowed 61 = .ok (.iload 8, 2) := by decide +kernel
theorem dX8_looksAllowed_63 : decode cX8_looksAllowed 63 = .ok (.ifCond .eq 43, 3) := by decide +kernel
theorem dX8_looksAllowed_66 : decode cX8_looksAllowed 66 = .ok (.aload_n 2, 1) := by decide +kernel
theorem dX8_looksAllowed_67 : decode cX8_looksAllowed 67 = .ok (.aload_n 0, 1) := by decide +kernel
theorem dX8_looksAllowed_68 : decode cX8_looksAllowed 68 = .ok (.getfield 10, 3) := by decide +kernel
theorem dX8_looksAllowed_71 : decode cX8_looksAllowed 71 = .ok (.getfield 180, 3) := by decide +kernel
theorem dX8_looksAllowed_74 : decode cX8_looksAllowed 74 = .ok (.iload 9, 2) := by decide +kernel
theorem dX8_looksAllowed_76 : decode cX8_looksAllowed 76 = .ok (.aaload, 1) := by decide +kernel
theorem dX8_looksAllowed_77 : decode cX8_looksAllowed 77 = .ok (.iload 6, 2) := by decide +kernel
theorem dX8_looksAllowed_79 : decode cX8_looksAllowed 79 = .ok (.iload 7, 2) := by decide +kernel
theorem dX8_looksAllowed_81 : decode cX8_looksAllowed 81 = .ok (.invokevirtual 356, 3) := by decide +kernel
theorem dX8_looksAllowed_84 : decode cX8_looksAllowed 84 = .ok (.aload_n 1, 1) := by decide +kernel
theorem dX8_looksAllowed_85 : decode cX8_looksAllowed 85 = .ok (.iload 9, 2) := by decide +kernel
theorem dX8_looksAllowed_87 : decode cX8_looksAllowed 87 = .ok (.invokevirtual 353, 3) := by decide +kernel
theorem dX8_looksAllowed_90 : decode cX8_looksAllowed 90 = .ok (.if_icmp .ne 7, 3) := by decide +kernel
theorem dX8_looksAllowed_93 : decode cX8_looksAllowed 93 = .ok (.iconst 1, 1) := by decide +kernel
theorem dX8_looksAllowed_94 : decode cX8_looksAllowed 94 = .ok (.goto 4, 3) := by decide +kernel
theorem dX8_looksAllowed_97 : decode cX8_looksAllowed 97 = .ok (.iconst 0, 1) := by decide +kernel
theorem dX8_looksAllowed_98 : decode cX8_looksAllowed 98 = .ok (.istore 8, 2) := by decide +kernel
theorem dX8_looksAllowed_100 : decode cX8_looksAllowed 100 = .ok (.iinc 9 1, 3) := by decide +kernel
theorem dX8_looksAllowed_103 : decode cX8_looksAllowed 103 = .ok (.goto (-54), 3) := by decide +kernel
theorem dX8_looksAllowed_106 : decode cX8_looksAllowed 106 = .ok (.iload 8, 2) := by decide +kernel
theorem dX8_looksAllowed_108 : decode cX8_looksAllowed 108 = .ok (.ifCond .eq 12, 3) := by decide +kernel
theorem dX8_looksAllowed_111 : decode cX8_looksAllowed 111 = .ok (.iload 4, 2) := by decide +kernel
theorem dX8_looksAllowed_113 : decode cX8_looksAllowed 113 = .ok (.iconst 1, 1) := by decide +kernel
theorem dX8_looksAllowed_114 : decode cX8_looksAllowed 114 = .ok (.iload 5, 2) := by decide +kernel
theorem dX8_looksAllowed_116 : decode cX8_looksAllowed 116 = .ok (.ishl, 1) := by decide +kernel
theorem dX8_looksAllowed_117 : decode cX8_looksAllowed 117 = .ok (.ior, 1) := by decide +kernel
theorem dX8_looksAllowed_118 : decode cX8_looksAllowed 118 = .ok (.istore 4, 2) := by decide +kernel
theorem dX8_looksAllowed_120 : decode cX8_looksAllowed 120 = .ok (.iinc 5 1, 3) := by decide +kernel
theorem dX8_looksAllowed_123 : decode cX8_looksAllowed 123 = .ok (.goto (-117), 3) := by decide +kernel
theorem dX8_looksAllowed_126 : decode cX8_looksAllowed 126 = .ok (.iload 4, 2) := by decide +kernel
theorem dX8_looksAllowed_128 : decode cX8_looksAllowed 128 = .ok (.ireturn, 1) := by decide +kernel
theorem dX9_init_0 : decode cX9_init 0 = .ok (.aload_n 0, 1) := by decide +kernel
theorem dX9_init_1 : decode cX9_init 1 = .ok (.invokespecial 1, 3) := by decide +kernel
theorem dX9_init_4 : decode cX9_init 4 = .ok (.aload_n 0, 1) := by decide +kernel
theorem dX9_init_5 : decode cX9_init 5 = .ok (.iconst 1, 1) := by decide +kernel
theorem dX9_init_6 : decode cX9_init 6 = .ok (.putfield 7, 3) := by decide +kernel
theorem dX9_init_9 : decode cX9_init 9 = .ok (.aload_n 0, 1) := by decide +kernel
theorem dX9_init_10 : decode cX9_init 10 = .ok (.iconst (-1), 1) := by decide +kernel
theorem dX9_init_11 : decode cX9_init 11 = .ok (.putfield 13, 3) := by decide +kernel
theorem dX9_init_14 : decode cX9_init 14 = .ok (.aload_n 0, 1) := by decide +kernel
theorem dX9_init_15 : decode cX9_init 15 = .ok (.bipush 8, 2) := by decide +kernel
theorem dX9_init_17 : decode cX9_init 17 = .ok (.newarray .int, 2) := by decide +kernel
theorem dX9_init_19 : decode cX9_init 19 = .ok (.putfield 16, 3) := by decide +kernel
theorem dX9_init_22 : decode cX9_init 22 = .ok (.aload_n 0, 1) := by decide +kernel
theorem dX9_init_23 : decode cX9_init 23 = .ok (.bipush 9, 2) := by decide +kernel
theorem dX9_init_25 : decode cX9_init 25 = .ok (.newarray .int, 2) := by decide +kernel
theorem dX9_init_27 : decode cX9_init 27 = .ok (.putfield 20, 3) := by decide +kernel
theorem dX9_init_30 : decode cX9_init 30 = .ok (.aload_n 0, 1) := by decide +kernel
theorem dX9_init_31 : decode cX9_init 31 = .ok (.bipush 9, 2) := by decide +kernel
theorem dX9_init_33 : decode cX9_init 33 = .ok (.newarray .int, 2) := by decide +kernel
theorem dX9_init_35 : decode cX9_init 35 = .ok (.putfield 23, 3) := by decide +kernel
theorem dX9_init_38 : decode cX9_init 38 = .ok (.aload_n 0, 1) := by decide +kernel
theorem dX9_init_39 : decode cX9_init 39 = .ok (.bipush 9, 2) := by decide +kernel
theorem dX9_init_41 : decode cX9_init 41 = .ok (.newarray .int, 2) := by decide +kernel
theorem dX9_init_43 : decode cX9_init 43 = .ok (.putfield 26, 3) := by decide +kernel
theorem dX9_init_46 : decode cX9_init 46 = .ok (.aload_n 0, 1) := by decide +kernel
theorem dX9_init_47 : decode cX9_init 47 = .ok (.bipush 9, 2) := by decide +kernel
theorem dX9_init_49 : decode cX9_init 49 = .ok (.newarray .int, 2) := by decide +kernel
theorem dX9_init_51 : decode cX9_init 51 = .ok (.putfield 29, 3) := by decide +kernel
theorem dX9_init_54 : decode cX9_init 54 = .ok (.aload_n 0, 1) := by decide +kernel
theorem dX9_init_55 : decode cX9_init 55 = .ok (.bipush 9, 2) := by decide +kernel
theorem dX9_init_57 : decode cX9_init 57 = .ok (.newarray .int, 2) := by decide +kernel
theorem dX9_init_59 : decode cX9_init 59 = .ok (.putfield 32, 3) := by decide +kernel
theorem dX9_init_62 : decode cX9_init 62 = .ok (.aload_n 0, 1) := by decide +kernel
theorem dX9_init_63 : decode cX9_init 63 = .ok (.bipush 9, 2) := by decide +kernel
theorem dX9_init_65 : decode cX9_init 65 = .ok (.newarray .int, 2) := by decide +kernel
theorem dX9_init_67 : decode cX9_init 67 = .ok (.putfield 35, 3) := by decide +kernel
theorem dX9_init_70 : decode cX9_init 70 = .ok (.aload_n 0, 1) := by decide +kernel
theorem dX9_init_71 : decode cX9_init 71 = .ok (.bipush 9, 2) := by decide +kernel
theorem dX9_init_73 : decode cX9_init 73 = .ok (.newarray .int, 2) := by decide +kernel
theorem dX9_init_75 : decode cX9_init 75 = .ok (.putfield 38, 3) := by decide +kernel
theorem dX9_init_78 : decode cX9_init 78 = .ok (.aload_n 0, 1) := by decide +kernel
theorem dX9_init_79 : decode cX9_init 79 = .ok (.iconst 5, 1) := by decide +kernel
theorem dX9_init_80 : decode cX9_init 80 = .ok (.newarray .int, 2) := by decide +kernel
theorem dX9_init_82 : decode cX9_init 82 = .ok (.putfield 41, 3) := by decide +kernel
theorem dX9_init_85 : decode cX9_init 85 = .ok (.aload_n 0, 1) := by decide +kernel
theorem dX9_init_86 : decode cX9_init 86 = .ok (.iconst 5, 1) := by decide +kernel
theorem dX9_init_87 : decode cX9_init 87 = .ok (.newarray .int, 2) := by decide +kernel
theorem dX9_init_89 : decode cX9_init 89 = .ok (.putfield 44, 3) := by decide +kernel
theorem dX9_init_92 : decode cX9_init 92 = .ok (.aload_n 0, 1) := by decide +kernel
theorem dX9_init_93 : decode cX9_init 93 = .ok (.iconst 5, 1) := by decide +kernel
theorem dX9_init_94 : decode cX9_init 94 = .ok (.newarray .int, 2) := by decide +kernel
theorem dX9_init_96 : decode cX9_init 96 = .ok (.putfield 47, 3) := by decide +kernel
theorem dX9_init_99 : decode cX9_init 99 = .ok (.aload_n 0, 1) := by decide +kernel
theorem dX9_init_100 : decode cX9_init 100 = .ok (.iconst 5, 1) := by decide +kernel
theorem dX9_init_101 : decode cX9_init 101 = .ok (.newarray .int, 2) := by decide +kernel
theorem dX9_init_103 : decode cX9_init 103 = .ok (.putfield 50, 3) := by decide +kernel
theorem dX9_init_106 : decode cX9_init 106 = .ok (.aload_n 0, 1) := by decide +kernel
theorem dX9_init_107 : decode cX9_init 107 = .ok (.iconst 5, 1) := by decide +kernel
theorem dX9_init_108 : decode cX9_init 108 = .ok (.newarray .int, 2) := by decide +kernel
theorem dX9_init_110 : decode cX9_init 110 = .ok (.putfield 53, 3) := by decide +kernel
theorem dX9_init_113 : decode cX9_init 113 = .ok (.aload_n 0, 1) := by decide +kernel
theorem dX9_init_114 : decode cX9_init 114 = .ok (.iconst 5, 1) := by decide +kernel
theorem dX9_init_115 : decode cX9_init 115 = .ok (.newarray .int, 2) := by decide +kernel
theorem dX9_init_117 : decode cX9_init 117 = .ok (.putfield 56, 3) := by decide +kernel
theorem dX9_init_120 : decode cX9_init 120 = .ok (.aload_n 0, 1) := by decide +kernel
theorem dX9_init_121 : decode cX9_init 121 = .ok (.iconst 5, 1) := by decide +kernel
theorem dX9_init_122 : decode cX9_init 122 = .ok (.newarray .int, 2) := by decide +kernel
theorem dX9_init_124 : decode cX9_init 124 = .ok (.putfield 59, 3) := by decide +kernel
theorem dX9_init_127 : decode cX9_init 127 = .ok (.aload_n 0, 1) := by decide +kernel
theorem dX9_init_128 : decode cX9_init 128 = .ok (.iconst 5, 1) := by decide +kernel
theorem dX9_init_129 : decode cX9_init 129 = .ok (.newarray .int, 2) := by decide +kernel
theorem dX9_init_131 : decode cX9_init 131 = .ok (.putfield 62, 3) := by decide +kernel
theorem dX9_init_134 : decode cX9_init 134 = .ok (.aload_n 0, 1) := by decide +kernel
theorem dX9_init_135 : decode cX9_init 135 = .ok (.bipush 8, 2) := by decide +kernel
theorem dX9_init_137 : decode cX9_init 137 = .ok (.newarray .int, 2) := by decide +kernel
theorem dX9_init_139 : decode cX9_init 139 = .ok (.putfield 65, 3) := by decide +kernel
theorem dX9_init_142 : decode cX9_init 142 = .ok (.aload_n 0, 1) := by decide +kernel
theorem dX9_init_143 : decode cX9_init 143 = .ok (.bipush 8, 2) := by decide +kernel
theorem dX9_init_145 : decode cX9_init 145 = .ok (.newarray .int, 2) := by decide +kernel
theorem dX9_init_147 : decode cX9_init 147 = .ok (.putfield 68, 3) := by decide +kernel
theorem dX9_init_150 : decode cX9_init 150 = .ok (.aload_n 0, 1) := by decide +kernel
theorem dX9_init_151 : decode cX9_init 151 = .ok (.bipush 8, 2) := by decide +kernel
theorem dX9_init_153 : decode cX9_init 153 = .ok (.newarray .int, 2) := by decide +kernel
theorem dX9_init_155 : decode cX9_init 155 = .ok (.putfield 71, 3) := by decide +kernel
theorem dX9_init_158 : decode cX9_init 158 = .ok (.aload_n 0, 1) := by decide +kernel
theorem dX9_init_159 : decode cX9_init 159 = .ok (.bipush 8, 2) := by decide +kernel
theorem dX9_init_161 : decode cX9_init 161 = .ok (.newarray .int, 2) := by decide +kernel
theorem dX9_init_163 : decode cX9_init 163 = .ok (.putfield 74, 3) := by decide +kernel
theorem dX9_init_166 : decode cX9_init 166 = .ok (.aload_n 0, 1) := by decide +kernel
theorem dX9_init_167 : decode cX9_init 167 = .ok (.sipush 1280, 3) := by decide +kernel
theorem dX9_init_170 : decode cX9_init 170 = .ok (.newarray .long, 2) := by decide +kernel
theorem dX9_init_172 : decode cX9_init 172 = .ok (.putfield 77, 3) := by decide +kernel
theorem dX9_init_175 : decode cX9_init 175 = .ok (.aload_n 0, 1) := by decide +kernel
theorem dX9_init_176 : decode cX9_init 176 = .ok (.sipush 160, 3) := by decide +kernel
theorem dX9_init_179 : decode cX9_init 179 = .ok (.newarray .long, 2) := by decide +kernel
theorem dX9_init_181 : decode cX9_init 181 = .ok (.putfield 81, 3) := by decide +kernel
theorem dX9_init_184 : decode cX9_init 184 = .ok (.aload_n 0, 1) := by decide +kernel
theorem dX9_init_185 : decode cX9_init 185 = .ok (.bipush 26, 2) := by decide +kernel
theorem dX9_init_187 : decode cX9_init 187 = .ok (.newarray .int, 2) := by decide +kernel
theorem dX9_init_189 : decode cX9_init 189 = .ok (.dup, 1) := by decide +kernel
theorem dX9_init_190 : decode cX9_init 190 = .ok (.iconst 0, 1) := by decide +kernel
theorem dX9_init_191 : decode cX9_init 191 = .ok (.bipush 97, 2) := by decide +kernel
theorem dX9_init_193 : decode cX9_init 193 = .ok (.iastore, 1) := by decide +kernel
theorem dX9_init_194 : decode cX9_init 194 = .ok (.dup, 1) := by decide +kernel
theorem dX9_init_195 : decode cX9_init 195 = .ok (.iconst 1, 1) := by decide +kernel
theorem dX9_init_196 : decode cX9_init 196 = .ok (.bipush 114, 2) := by decide +kernel
theorem dX9_init_198 : decode cX9_init 198 = .ok (.iastore, 1) := by decide +kernel
theorem dX9_init_199 : decode cX9_init 199 = .ok (.dup, 1) := by decide +kernel
theorem dX9_init_200 : decode cX9_init 200 = .ok (.iconst 2, 1) := by decide +kernel
theorem dX9_init_201 : decode cX9_init 201 = .ok (.bipush 109, 2) := by decide +kernel
theorem dX9_init_203 : decode cX9_init 203 = .ok (.iastore, 1) := by decide +kernel
theorem dX9_init_204 : decode cX9_init 204 = .ok (.dup, 1) := by decide +kernel
theorem dX9_init_205 : decode cX9_init 205 = .ok (.iconst 3, 1) := by decide +kernel
theorem dX9_init_206 : decode cX9_init 206 = .ok (.bipush 32, 2) := by decide +kernel
theorem dX9_init_208 : decode cX9_init 208 = .ok (.iastore, 1) := by decide +kernel
theorem dX9_init_209 : decode cX9_init 209 = .ok (.dup, 1) := by decide +kernel
theorem dX9_init_210 : decode cX9_init 210 = .ok (.iconst 4, 1) := by decide +kernel
theorem dX9_init_211 : decode cX9_init 211 = .ok (.iconst 0, 1) := by decide +kernel
theorem dX9_init_212 : decode cX9_init 212 = .ok (.iastore, 1) := by decide +kernel
theorem dX9_init_213 : decode cX9_init 213 = .ok (.dup, 1) := by decide +kernel
theorem dX9_init_214 : decode cX9_init 214 = .ok (.iconst 5, 1) := by decide +kernel
theorem dX9_init_215 : decode cX9_init 215 = .ok (.bipush 100, 2) := by decide +kernel
theorem dX9_init_217 : decode cX9_init 217 = .ok (.iastore, 1) := by decide +kernel
theorem dX9_init_218 : decode cX9_init 218 = .ok (.dup, 1) := by decide +kernel
theorem dX9_init_219 : decode cX9_init 219 = .ok (.bipush 6, 2) := by decide +kernel
theorem dX9_init_221 : decode cX9_init 221 = .ok (.bipush 111, 2) := by decide +kernel
theorem dX9_init_223 : decode cX9_init 223 = .ok (.iastore, 1) := by decide +kernel
theorem dX9_init_224 : decode cX9_init 224 = .ok (.dup, 1) := by decide +kernel
theorem dX9_init_225 : decode cX9_init 225 = .ok (.bipush 7, 2) := by decide +kernel
theorem dX9_init_227 : decode cX9_init 227 = .ok (.bipush 108, 2) := by decide +kernel
theorem dX9_init_229 : decode cX9_init 229 = .ok (.iastore, 1) := by decide +kernel
theorem dX9_init_230 : decode cX9_init 230 = .ok (.dup, 1) := by decide +kernel
theorem dX9_init_231 : decode cX9_init 231 = .ok (.bipush 8, 2) := by decide +kernel
theorem dX9_init_233 : decode cX9_init 233 = .ok (.bipush 108, 2) := by decide +kernel
theorem dX9_init_235 : decode cX9_init 235 = .ok (.iastore, 1) := by decide +kernel
theorem dX9_init_236 : decode cX9_init 236 = .ok (.dup, 1) := by decide +kernel
theorem dX9_init_237 : decode cX9_init 237 = .ok (.bipush 9, 2) := by decide +kernel
theorem dX9_init_239 : decode cX9_init 239 = .ok (.bipush 32, 2) := by decide +kernel
theorem dX9_init_241 : decode cX9_init 241 = .ok (.iastore, 1) := by decide +kernel
theorem dX9_init_242 : decode cX9_init 242 = .ok (.dup, 1) := by decide +kernel
theorem dX9_init_243 : decode cX9_init 243 = .ok (.bipush 10, 2) := by decide +kernel
theorem dX9_init_245 : decode cX9_init 245 = .ok (.iconst 0, 1) := by decide +kernel
theorem dX9_init_246 : decode cX9_init 246 = .ok (.iastore, 1) := by decide +kernel
theorem dX9_init_247 : decode cX9_init 247 = .ok (.dup, 1) := by decide +kernel
theorem dX9_init_248 : decode cX9_init 248 = .ok (.bipush 11, 2) := by decide +kernel
theorem dX9_init_250 : decode cX9_init 250 = .ok (.bipush 111, 2) := by decide +kernel
theorem dX9_init_252 : decode cX9_init 252 = .ok (.iastore, 1) := by decide +kernel
theorem dX9_init_253 : decode cX9_init 253 = .ok (.dup, 1) := by decide +kernel
theorem dX9_init_254 : decode cX9_init 254 = .ok (.bipush 12, 2) := by decide +kernel
theorem dX9_init_256 : decode cX9_init 256 = .ok (.bipush 110, 2) := by decide +kernel
theorem dX9_init_258 : decode cX9_init 258 = .ok (.iastore, 1) := by decide +kernel
theorem dX9_init_259 : decode cX9_init 259 = .ok (.dup, 1) := by decide +kernel
theorem dX9_init_260 : decode cX9_init 260 = .ok (.bipush 13, 2) := by decide +kernel
theorem dX9_init_262 : decode cX9_init 262 = .ok (.bipush 32, 2) := by decide +kernel
theorem dX9_init_264 : decode cX9_init 264 = .ok (.iastore, 1) := by decide +kernel
theorem dX9_init_265 : decode cX9_init 265 = .ok (.dup, 1) := by decide +kernel
theorem dX9_init_266 : decode cX9_init 266 = .ok (.bipush 14, 2) := by decide +kernel
theorem dX9_init_268 : decode cX9_init 268 = .ok (.iconst 0, 1) := by decide +kernel
theorem dX9_init_269 : decode cX9_init 269 = .ok (.iastore, 1) := by decide +kernel
theorem dX9_init_270 : decode cX9_init 270 = .ok (.dup, 1) := by decide +kernel
theorem dX9_init_271 : decode cX9_init 271 = .ok (.bipush 15, 2) := by decide +kernel
theorem dX9_init_273 : decode cX9_init 273 = .ok (.bipush 111, 2) := by decide +kernel
theorem dX9_init_275 : decode cX9_init 275 = .ok (.iastore, 1) := by decide +kernel
theorem dX9_init_276 : decode cX9_init 276 = .ok (.dup, 1) := by decide +kernel
theorem dX9_init_277 : decode cX9_init 277 = .ok (.bipush 16, 2) := by decide +kernel
theorem dX9_init_279 : decode cX9_init 279 = .ok (.bipush 102, 2) := by decide +kernel
theorem dX9_init_281 : decode cX9_init 281 = .ok (.iastore, 1) := by decide +kernel
theorem dX9_init_282 : decode cX9_init 282 = .ok (.dup, 1) := by decide +kernel
theorem dX9_init_283 : decode cX9_init 283 = .ok (.bipush 17, 2) := by decide +kernel
theorem dX9_init_285 : decode cX9_init 285 = .ok (.bipush 102, 2) := by decide +kernel
theorem dX9_init_287 : decode cX9_init 287 = .ok (.iastore, 1) := by decide +kernel
theorem dX9_init_288 : decode cX9_init 288 = .ok (.dup, 1) := by decide +kernel
theorem dX9_init_289 : decode cX9_init 289 = .ok (.bipush 18, 2) := by decide +kernel
theorem dX9_init_291 : decode cX9_init 291 = .ok (.bipush 32, 2) := by decide +kernel
theorem dX9_init_293 : decode cX9_init 293 = .ok (.iastore, 1) := by decide +kernel
theorem dX9_init_294 : decode cX9_init 294 = .ok (.dup, 1) := by decide +kernel
theorem dX9_init_295 : decode cX9_init 295 = .ok (.bipush 19, 2) := by decide +kernel
theorem dX9_init_297 : decode cX9_init 297 = .ok (.iconst 0, 1) := by decide +kernel
theorem dX9_init_298 : decode cX9_init 298 = .ok (.iastore, 1) := by decide +kernel
theorem dX9_init_299 : decode cX9_init 299 = .ok (.dup, 1) := by decide +kernel
theorem dX9_init_300 : decode cX9_init 300 = .ok (.bipush 20, 2) := by decide +kernel
theorem dX9_init_302 : decode cX9_init 302 = .ok (.bipush 108, 2) := by decide +kernel
theorem dX9_init_304 : decode cX9_init 304 = .ok (.iastore, 1) := by decide +kernel
theorem dX9_init_305 : decode cX9_init 305 = .ok (.dup, 1) := by decide +kernel
theorem dX9_init_306 : decode cX9_init 306 = .ok (.bipush 21, 2) := by decide +kernel
theorem dX9_init_308 : decode cX9_init 308 = .ok (.bipush 105, 2) := by decide +kernel
theorem dX9_init_310 : decode cX9_init 310 = .ok (.iastore, 1) := by decide +kernel
theorem dX9_init_311 : decode cX9_init 311 = .ok (.dup, 1) := by decide +kernel
theorem dX9_init_312 : decode cX9_init 312 = .ok (.bipush 22, 2) := by decide +kernel
theorem dX9_init_314 : decode cX9_init 314 = .ok (.bipush 101, 2) := by decide +kernel
theorem dX9_init_316 : decode cX9_init 316 = .ok (.iastore, 1) := by decide +kernel
theorem dX9_init_317 : decode cX9_init 317 = .ok (.dup, 1) := by decide +kernel
theorem dX9_init_318 : decode cX9_init 318 = .ok (.bipush 23, 2) := by decide +kernel
theorem dX9_init_320 : decode cX9_init 320 = .ok (.bipush 115, 2) := by decide +kernel
theorem dX9_init_322 : decode cX9_init 322 = .ok (.iastore, 1) := by decide +kernel
theorem dX9_init_323 : decode cX9_init 323 = .ok (.dup, 1) := by decide +kernel
theorem dX9_init_324 : decode cX9_init 324 = .ok (.bipush 24, 2) := by decide +kernel
theorem dX9_init_326 : decode cX9_init 326 = .ok (.bipush 32, 2) := by decide +kernel
theorem dX9_init_328 : decode cX9_init 328 = .ok (.iastore, 1) := by decide +kernel
theorem dX9_init_329 : decode cX9_init 329 = .ok (.dup, 1) := by decide +kernel
theorem dX9_init_330 : decode cX9_init 330 = .ok (.bipush 25, 2) := by decide +kernel
theorem dX9_init_332 : decode cX9_init 332 = .ok (.iconst 0, 1) := by decide +kernel
theorem dX9_init_333 : decode cX9_init 333 = .ok (.iastore, 1) := by decide +kernel
theorem dX9_init_334 : decode cX9_init 334 = .ok (.putfield 84, 3) := by decide +kernel
theorem dX9_init_337 : decode cX9_init 337 = .ok (.aload_n 0, 1) := by decide +kernel
theorem dX9_init_338 : decode cX9_init 338 = .ok (.iconst 5, 1) := by decide +kernel
theorem dX9_init_339 : decode cX9_init 339 = .ok (.newarray .int, 2) := by decide +kernel
theorem dX9_init_341 : decode cX9_init 341 = .ok (.dup, 1) := by decide +kernel
theorem dX9_init_342 : decode cX9_init 342 = .ok (.iconst 0, 1) := by decide +kernel
theorem dX9_init_343 : decode cX9_init 343 = .ok (.bipush 6, 2) := by decide +kernel
theorem dX9_init_345 : decode cX9_init 345 = .ok (.iastore, 1) := by decide +kernel
theorem dX9_init_346 : decode cX9_init 346 = .ok (.dup, 1) := by decide +kernel
theorem dX9_init_347 : decode cX9_init 347 = .ok (.iconst 1, 1) := by decide +kernel
theorem dX9_init_348 : decode cX9_init 348 = .ok (.bipush 7, 2) := by decide +kernel
theorem dX9_init_350 : decode cX9_init 350 = .ok (.iastore, 1) := by decide +kernel
theorem dX9_init_351 : decode cX9_init 351 = .ok (.dup, 1) := by decide +kernel
theorem dX9_init_352 : decode cX9_init 352 = .ok (.iconst 2, 1) := by decide +kernel
theorem dX9_init_353 : decode cX9_init 353 = .ok (.iconst 2, 1) := by decide +kernel
theorem dX9_init_354 : decode cX9_init 354 = .ok (.iastore, 1) := by decide +kernel
theorem dX9_init_355 : decode cX9_init 355 = .ok (.dup, 1) := by decide +kernel
theorem dX9_init_356 : decode cX9_init 356 = .ok (.iconst 3, 1) := by decide +kernel
theorem dX9_init_357 : decode cX9_init 357 = .ok (.iconst 1, 1) := by decide +kernel
theorem dX9_init_358 : decode cX9_init 358 = .ok (.iastore, 1) := by decide +kernel
theorem dX9_init_359 : decode cX9_init 359 = .ok (.dup, 1) := by decide +kernel
theorem dX9_init_360 : decode cX9_init 360 = .ok (.iconst 4, 1) := by decide +kernel
theorem dX9_init_361 : decode cX9_init 361 = .ok (.iconst 2, 1) := by decide +kernel
theorem dX9_init_362 : decode cX9_init 362 = .ok (.iastore, 1) := by decide +kernel
theorem dX9_init_363 : decode cX9_init 363 = .ok (.putfield 87, 3) := by decide +kernel
theorem dX9_init_366 : decode cX9_init 366 = .ok (.aload_n 0, 1) := by decide +kernel
theorem dX9_init_367 : decode cX9_init 367 = .ok (.bipush 6, 2) := by decide +kernel
theorem dX9_init_369 : decode cX9_init 369 = .ok (.newarray .int, 2) := by decide +kernel
theorem dX9_init_371 : decode cX9_init 371 = .ok (.dup, 1) := by decide +kernel
theorem dX9_init_372 : decode cX9_init 372 = .ok (.iconst 0, 1) := by decide +kernel
theorem dX9_init_373 : decode cX9_init 373 = .ok (.bipush 6, 2) := by decide +kernel
theorem dX9_init_375 : decode cX9_init 375 = .ok (.iastore, 1) := by decide +kernel
theorem dX9_init_376 : decode cX9_init 376 = .ok (.dup, 1) := by decide +kernel
theorem dX9_init_377 : decode cX9_init 377 = .ok (.iconst 1, 1) := by decide +kernel
theorem dX9_init_378 : decode cX9_init 378 = .ok (.bipush 9, 2) := by decide +kernel
theorem dX9_init_380 : decode cX9_init 380 = .ok (.iastore, 1) := by decide +kernel
theorem dX9_init_381 : decode cX9_init 381 = .ok (.dup, 1) := by decide +kernel
theorem dX9_init_382 : decode cX9_init 382 = .ok (.iconst 2, 1) := by decide +kernel
theorem dX9_init_383 : decode cX9_init 383 = .ok (.iconst 1, 1) := by decide +kernel
theorem dX9_init_384 : decode cX9_init 384 = .ok (.iastore, 1) := by decide +kernel
theorem dX9_init_385 : decode cX9_init 385 = .ok (.dup, 1) := by decide +kernel
theorem dX9_init_386 : decode cX9_init 386 = .ok (.iconst 3, 1) := by decide +kernel
theorem dX9_init_387 : decode cX9_init 387 = .ok (.bipush 9, 2) := by decide +kernel
theorem dX9_init_389 : decode cX9_init 389 = .ok (.iastore, 1) := by decide +kernel
theorem dX9_init_390 : decode cX9_init 390 = .ok (.dup, 1) := by decide +kernel
theorem dX9_init_391 : decode cX9_init 391 = .ok (.iconst 4, 1) := by decide +kernel
theorem dX9_init_392 : decode cX9_init 392 = .ok (.bipush 9, 2) := by decide +kernel
theorem dX9_init_394 : decode cX9_init 394 = .ok (.iastore, 1) := by decide +kernel
theorem dX9_init_395 : decode cX9_init 395 = .ok (.dup, 1) := by decide +kernel
theorem dX9_init_396 : decode cX9_init 396 = .ok (.iconst 5, 1) := by decide +kernel
theorem dX9_init_397 : decode cX9_init 397 = .ok (.bipush 9, 2) := by decide +kernel
theorem dX9_init_399 : decode cX9_init 399 = .ok (.iastore, 1) := by decide +kernel
theorem dX9_init_400 : decode cX9_init 400 = .ok (.putfield 90, 3) := by decide +kernel
theorem dX9_init_403 : decode cX9_init 403 = .ok (.aload_n 0, 1) := by decide +kernel
theorem dX9_init_404 : decode cX9_init 404 = .ok (.bipush 7, 2) := by decide +kernel
theorem dX9_init_406 : decode cX9_init 406 = .ok (.newarray .int, 2) := by decide +kernel
theorem dX9_init_408 : decode cX9_init 408 = .ok (.dup, 1) := by decide +kernel
theorem dX9_init_409 : decode cX9_init 409 = .ok (.iconst 0, 1) := by decide +kernel
theorem dX9_init_410 : decode cX9_init 410 = .ok (.bipush 9, 2) := by decide +kernel
theorem dX9_init_412 : decode cX9_init 412 = .ok (.iastore, 1) := by decide +kernel
theorem dX9_init_413 : decode cX9_init 413 = .ok (.dup, 1) := by decide +kernel
theorem dX9_init_414 : decode cX9_init 414 = .ok (.iconst 1, 1) := by decide +kernel
theorem dX9_init_415 : decode cX9_init 415 = .ok (.bipush 9, 2) := by decide +kernel
theorem dX9_init_417 : decode cX9_init 417 = .ok (.iastore, 1) := by decide +kernel
theorem dX9_init_418 : decode cX9_init 418 = .ok (.dup, 1) := by decide +kernel
theorem dX9_init_419 : decode cX9_init 419 = .ok (.iconst 2, 1) := by decide +kernel
theorem dX9_init_420 : decode cX9_init 420 = .ok (.bipush 9, 2) := by decide +kernel
theorem dX9_init_422 : decode cX9_init 422 = .ok (.iastore, 1) := by decide +kernel
theorem dX9_init_423 : decode cX9_init 423 = .ok (.dup, 1) := by decide +kernel
theorem dX9_init_424 : decode cX9_init 424 = .ok (.iconst 3, 1) := by decide +kernel
theorem dX9_init_425 : decode cX9_init 425 = .ok (.iconst 2, 1) := by decide +kernel
theorem dX9_init_426 : decode cX9_init 426 = .ok (.iastore, 1) := by decide +kernel
theorem dX9_init_427 : decode cX9_init 427 = .ok (.dup, 1) := by decide +kernel
theorem dX9_init_428 : decode cX9_init 428 = .ok (.iconst 4, 1) := by decide +kernel
theorem dX9_init_429 : decode cX9_init 429 = .ok (.bipush 99, 2) := by decide +kernel
theorem dX9_init_431 : decode cX9_init 431 = .ok (.iastore, 1) := by decide +kernel
theorem dX9_init_432 : decode cX9_init 432 = .ok (.dup, 1) := by decide +kernel
theorem dX9_init_433 : decode cX9_init 433 = .ok (.iconst 5, 1) := by decide +kernel
theorem dX9_init_434 : decode cX9_init 434 = .ok (.bipush 9, 2) := by decide +kernel
theorem dX9_init_436 : decode cX9_init 436 = .ok (.iastore, 1) := by decide +kernel
theorem dX9_init_437 : decode cX9_init 437 = .ok (.dup, 1) := by decide +kernel
theorem dX9_init_438 : decode cX9_init 438 = .ok (.bipush 6, 2) := by decide +kernel
theorem dX9_init_440 : decode cX9_init 440 = .ok (.bipush 40, 2) := by decide +kernel
theorem dX9_init_442 : decode cX9_init 442 = .ok (.iastore, 1) := by decide +kernel
theorem dX9_init_443 : decode cX9_init 443 = .ok (.putfield 93, 3) := by decide +kernel
theorem dX9_init_446 : decode cX9_init 446 = .ok (.aload_n 0, 1) := by decide +kernel
theorem dX9_init_447 : decode cX9_init 447 = .ok (.bipush 7, 2) := by decide +kernel
theorem dX9_init_449 : decode cX9_init 449 = .ok (.newarray .int, 2) := by decide +kernel
theorem dX9_init_451 : decode cX9_init 451 = .ok (.putfield 96, 3) := by decide +kernel
theorem dX9_init_454 : decode cX9_init 454 = .ok (.aload_n 0, 1) := by decide +kernel
theorem dX9_init_455 : decode cX9_init 455 = .ok (.bipush 110, 2) := by decide +kernel
theorem dX9_init_457 : decode cX9_init 457 = .ok (.newarray .int, 2) := by decide +kernel
theorem dX9_init_459 : decode cX9_init 459 = .ok (.putfield 99, 3) := by decide +kernel
theorem dX9_init_462 : decode cX9_init 462 = .ok (.aload_n 0, 1) := by decide +kernel
theorem dX9_init_463 : decode cX9_init 463 = .ok (.bipush 110, 2) := by decide +kernel
theorem dX9_init_465 : decode cX9_init 465 = .ok (.newarray .int, 2) := by decide +kernel
theorem dX9_init_467 : decode cX9_init 467 = .ok (.putfield 102, 3) := by decide +kernel
theorem dX9_init_470 : decode cX9_init 470 = .ok (.aload_n 0, 1) := by decide +kernel
theorem dX9_init_471 : decode cX9_init 471 = .ok (.bipush 110, 2) := by decide +kernel
theorem dX9_init_473 : decode cX9_init 473 = .ok (.newarray .int, 2) := by decide +kernel
theorem dX9_init_475 : decode cX9_init 475 = .ok (.putfield 105, 3) := by decide +kernel
theorem dX9_init_478 : decode cX9_init 478 = .ok (.aload_n 0, 1) := by decide +kernel
theorem dX9_init_479 : decode cX9_init 479 = .ok (.sipush 5632, 3) := by decide +kernel
theorem dX9_init_482 : decode cX9_init 482 = .ok (.newarray .int, 2) := by decide +kernel
theorem dX9_init_484 : decode cX9_init 484 = .ok (.putfield 108, 3) := by decide +kernel
theorem dX9_init_487 : decode cX9_init 487 = .ok (.aload_n 0, 1) := by decide +kernel
theorem dX9_init_488 : decode cX9_init 488 = .ok (.bipush 10, 2) := by decide +kernel
theorem dX9_init_490 : decode cX9_init 490 = .ok (.newarray .int, 2) := by decide +kernel
theorem dX9_init_492 : decode cX9_init 492 = .ok (.putfield 111, 3) := by decide +kernel
theorem dX9_init_495 : decode cX9_init 495 = .ok (.aload_n 0, 1) := by decide +kernel
theorem dX9_init_496 : decode cX9_init 496 = .ok (.iconst (-1), 1) := by decide +kernel
theorem dX9_init_497 : decode cX9_init 497 = .ok (.putfield 114, 3) := by decide +kernel
theorem dX9_init_500 : decode cX9_init 500 = .ok (.aload_n 0, 1) := by decide +kernel
theorem dX9_init_501 : decode cX9_init 501 = .ok (.iconst 5, 1) := by decide +kernel
theorem dX9_init_502 : decode cX9_init 502 = .ok (.newarray .int, 2) := by decide +kernel
theorem dX9_init_504 : decode cX9_init 504 = .ok (.putfield 117, 3) := by decide +kernel
theorem dX9_init_507 : decode cX9_init 507 = .ok (.aload_n 0, 1) := by decide +kernel
theorem dX9_init_508 : decode cX9_init 508 = .ok (.iconst 5, 1) := by decide +kernel
theorem dX9_init_509 : decode cX9_init 509 = .ok (.newarray .int, 2) := by decide +kernel
theorem dX9_init_511 : decode cX9_init 511 = .ok (.putfield 120, 3) := by decide +kernel
theorem dX9_init_514 : decode cX9_init 514 = .ok (.aload_n 0, 1) := by decide +kernel
theorem dX9_init_515 : decode cX9_init 515 = .ok (.bipush 20, 2) := by decide +kernel
theorem dX9_init_517 : decode cX9_init 517 = .ok (.newarray .int, 2) := by decide +kernel
theorem dX9_init_519 : decode cX9_init 519 = .ok (.putfield 123, 3) := by decide +kernel
theorem dX9_init_522 : decode cX9_init 522 = .ok (.return_, 1) := by decide +kernel
theorem dX9_no_0 : decode cX9_no 0 = .ok (.aload_n 0, 1) := by decide +kernel
theorem dX9_no_1 : decode cX9_no 1 = .ok (.getfield 16, 3) := by decide +kernel
theorem dX9_no_4 : decode cX9_no 4 = .ok (.iload_n 1, 1) := by decide +kernel
theorem dX9_no_5 : decode cX9_no 5 = .ok (.ineg, 1) := by decide +kernel
theorem dX9_no_6 : decode cX9_no 6 = .ok (.dup2, 1) := by decide +kernel
theorem dX9_no_7 : decode cX9_no 7 = .ok (.iaload, 1) := by decide +kernel
theorem dX9_no_8 : decode cX9_no 8 = .ok (.iconst 1, 1) := by decide +kernel
theorem dX9_no_9 : decode cX9_no 9 = .ok (.iadd, 1) := by decide +kernel
theorem dX9_no_10 : decode cX9_no 10 = .ok (.iastore, 1) := by decide +kernel
theorem dX9_no_11 : decode cX9_no 11 = .ok (.iload_n 1, 1) := by decide +kernel
theorem dX9_no_12 : decode cX9_no 12 = .ok (.ireturn, 1) := by decide +kernel
theorem dX9_noTen_0 : decode cX9_noTen 0 = .ok (.aload_n 0, 1) := by decide +kernel
theorem dX9_noTen_1 : decode cX9_noTen 1 = .ok (.getfield 16, 3) := by decide +kernel
theorem dX9_noTen_4 : decode cX9_noTen 4 = .ok (.iload_n 1, 1) := by decide +kernel
theorem dX9_noTen_5 : decode cX9_noTen 5 = .ok (.ineg, 1) := by decide +kernel
theorem dX9_noTen_6 : decode cX9_noTen 6 = .ok (.dup2, 1) := by decide +kernel
theorem dX9_noTen_7 : decode cX9_noTen 7 = .ok (.iaload, 1) := by decide +kernel
theorem dX9_noTen_8 : decode cX9_noTen 8 = .ok (.iconst 1, 1) := by decide +kernel
theorem dX9_noTen_9 : decode cX9_noTen 9 = .ok (.iadd, 1) := by decide +kernel
theorem dX9_noTen_10 : decode cX9_noTen 10 = .ok (.iastore, 1) := by decide +kernel
theorem dX9_noTen_11 : decode cX9_noTen 11 = .ok (.iload_n 1, 1) := by decide +kernel
theorem dX9_noTen_12 : decode cX9_noTen 12 = .ok (.bipush 10, 2) := by decide +kernel
theorem dX9_noTen_14 : decode cX9_noTen 14 = .ok (.isub, 1) := by decide +kernel
theorem dX9_noTen_15 : decode cX9_noTen 15 = .ok (.ireturn, 1) := by decide +kernel
theorem dX9_isShelf_0 : decode cX9_isShelf 0 = .ok (.iload_n 1, 1) := by decide +kernel
theorem dX9_isShelf_1 : decode cX9_isShelf 1 = .ok (.ifCond .lt 13, 3) := by decide +kernel
theorem dX9_isShelf_4 : decode cX9_isShelf 4 = .ok (.iload_n 1, 1) := by decide +kernel
theorem dX9_isShelf_5 : decode cX9_isShelf 5 = .ok (.bipush 8, 2) := by decide +kernel
theorem dX9_isShelf_7 : decode cX9_isShelf 7 = .ok (.if_icmp .ge 7, 3) := by decide +kernel
theorem dX9_isShelf_10 : decode cX9_isShelf 10 = .ok (.iconst 1, 1) := by decide +kernel
theorem dX9_isShelf_11 : decode cX9_isShelf 11 = .ok (.goto 4, 3) := by decide +kernel
theorem dX9_isShelf_14 : decode cX9_isShelf 14 = .ok (.iconst 0, 1) := by decide +kernel
theorem dX9_isShelf_15 : decode cX9_isShelf 15 = .ok (.ireturn, 1) := by decide +kernel
theorem dX9_isArm_0 : decode cX9_isArm 0 = .ok (.iload_n 1, 1) := by decide +kernel
theorem dX9_isArm_1 : decode cX9_isArm 1 = .ok (.ifCond .lt 15, 3) := by decide +kernel
theorem dX9_isArm_4 : decode cX9_isArm 4 = .ok (.iload_n 1, 1) := by decide +kernel
theorem dX9_isArm_5 : decode cX9_isArm 5 = .ok (.aload_n 0, 1) := by decide +kernel
theorem dX9_isArm_6 : decode cX9_isArm 6 = .ok (.getfield 126, 3) := by decide +kernel
theorem dX9_isArm_9 : decode cX9_isArm 9 = .ok (.if_icmp .ge 7, 3) := by decide +kernel
theorem dX9_isArm_12 : decode cX9_isArm 12 = .ok (.iconst 1, 1) := by decide +kernel
theorem dX9_isArm_13 : decode cX9_isArm 13 = .ok (.goto 4, 3) := by decide +kernel
theorem dX9_isArm_16 : decode cX9_isArm 16 = .ok (.iconst 0, 1) := by decide +kernel
theorem dX9_isArm_17 : decode cX9_isArm 17 = .ok (.ireturn, 1) := by decide +kernel
theorem dX9_isDoll_0 : decode cX9_isDoll 0 = .ok (.iload_n 1, 1) := by decide +kernel
theorem dX9_isDoll_1 : decode cX9_isDoll 1 = .ok (.ifCond .lt 15, 3) := by decide +kernel
theorem dX9_isDoll_4 : decode cX9_isDoll 4 = .ok (.iload_n 1, 1) := by decide +kernel
theorem dX9_isDoll_5 : decode cX9_isDoll 5 = .ok (.aload_n 0, 1) := by decide +kernel
theorem dX9_isDoll_6 : decode cX9_isDoll 6 = .ok (.getfield 129, 3) := by decide +kernel
theorem dX9_isDoll_9 : decode cX9_isDoll 9 = .ok (.if_icmp .ge 7, 3) := by decide +kernel
theorem dX9_isDoll_12 : decode cX9_isDoll 12 = .ok (.iconst 1, 1) := by decide +kernel
theorem dX9_isDoll_13 : decode cX9_isDoll 13 = .ok (.goto 4, 3) := by decide +kernel
theorem dX9_isDoll_16 : decode cX9_isDoll 16 = .ok (.iconst 0, 1) := by decide +kernel
theorem dX9_isDoll_17 : decode cX9_isDoll 17 = .ok (.ireturn, 1) := by decide +kernel
theorem dX9_isFrom_0 : decode cX9_isFrom 0 = .ok (.iload_n 1, 1) := by decide +kernel
theorem dX9_isFrom_1 : decode cX9_isFrom 1 = .ok (.iload_n 2, 1) := by decide +kernel
theorem dX9_isFrom_2 : decode cX9_isFrom 2 = .ok (.if_icmp .lt 12, 3) := by decide +kernel
theorem dX9_isFrom_5 : decode cX9_isFrom 5 = .ok (.iload_n 1, 1) := by decide +kernel
theorem dX9_isFrom_6 : decode cX9_isFrom 6 = .ok (.iload_n 3, 1) := by decide +kernel
theorem dX9_isFrom_7 : decode cX9_isFrom 7 = .ok (.if_icmp .gt 7, 3) := by decide +kernel
theorem dX9_isFrom_10 : decode cX9_isFrom 10 = .ok (.iconst 1, 1) := by decide +kernel
theorem dX9_isFrom_11 : decode cX9_isFrom 11 = .ok (.goto 4, 3) := by decide +kernel
theorem dX9_isFrom_14 : decode cX9_isFrom 14 = .ok (.iconst 0, 1) := by decide +kernel
theorem dX9_isFrom_15 : decode cX9_isFrom 15 = .ok (.ireturn, 1) := by decide +kernel
theorem dX9_row_0 : decode cX9_row 0 = .ok (.aload_n 0, 1) := by decide +kernel
theorem dX9_row_1 : decode cX9_row 1 = .ok (.iload_n 1, 1) := by decide +kernel
theorem dX9_row_2 : decode cX9_row 2 = .ok (.invokevirtual 132, 3) := by decide +kernel
theorem dX9_row_5 : decode cX9_row 5 = .ok (.ifCond .ne 9, 3) := by decide +kernel
theorem dX9_row_8 : decode cX9_row 8 = .ok (.aload_n 0, 1) := by decide +kernel
theorem dX9_row_9 : decode cX9_row 9 = .ok (.iconst (-1), 1) := by decide +kernel
theorem dX9_row_10 : decode cX9_row 10 = .ok (.invokevirtual 136, 3) := by decide +kernel
theorem dX9_row_13 : decode cX9_row 13 = .ok (.ireturn, 1) := by decide +kernel
theorem dX9_row_14 : decode cX9_row 14 = .ok (.iload_n 3, 1) := by decide +kernel
theorem dX9_row_15 : decode cX9_row 15 = .ok (.ifCond .ge 10, 3) := by decide +kernel
theorem dX9_row_18 : decode cX9_row 18 = .ok (.aload_n 0, 1) := by decide +kernel
theorem dX9_row_19 : decode cX9_row 19 = .ok (.bipush (-4), 2) := by decide +kernel
theorem dX9_row_21 : decode cX9_row 21 = .ok (.invokevirtual 136, 3) := by decide +kernel
theorem dX9_row_24 : decode cX9_row 24 = .ok (.ireturn, 1) := by decide +kernel
theorem dX9_row_25 : decode cX9_row 25 = .ok (.iload_n 2, 1) := by decide +kernel
theorem dX9_row_26 : decode cX9_row 26 = .ok (.ifCond .lt 8, 3) := by decide +kernel
theorem dX9_row_29 : decode cX9_row 29 = .ok (.iload_n 2, 1) := by decide +kernel
theorem dX9_row_30 : decode cX9_row 30 = .ok (.iconst 3, 1) := by decide +kernel
theorem dX9_row_31 : decode cX9_row 31 = .ok (.if_icmp .le 10, 3) := by decide +kernel
theorem dX9_row_34 : decode cX9_row 34 = .ok (.aload_n 0, 1) := by decide +kernel
theorem dX9_row_35 : decode cX9_row 35 = .ok (.bipush (-6), 2) := by decide +kernel
theorem dX9_row_37 : decode cX9_row 37 = .ok (.invokevirtual 136, 3) := by decide +kernel
theorem dX9_row_40 : decode cX9_row 40 = .ok (.ireturn, 1) := by decide +kernel
theorem dX9_row_41 : decode cX9_row 41 = .ok (.iload_n 3, 1) := by decide +kernel
theorem dX9_row_42 : decode cX9_row 42 = .ok (.sipush 160, 3) := by decide +kernel
theorem dX9_row_45 : decode cX9_row 45 = .ok (.if_icmp .le 10, 3) := by decide +kernel
theorem dX9_row_48 : decode cX9_row 48 = .ok (.aload_n 0, 1) := by decide +kernel
theorem dX9_row_49 : decode cX9_row 49 = .ok (.bipush (-7), 2) := by decide +kernel
theorem dX9_row_51 : decode cX9_row 51 = .ok (.invokevirtual 136, 3) := by decide +kernel
theorem dX9_row_54 : decode cX9_row 54 = .ok (.ireturn, 1) := by decide +kernel
theorem dX9_row_55 : decode cX9_row 55 = .ok (.aload_n 0, 1) := by decide +kernel
theorem dX9_row_56 : decode cX9_row 56 = .ok (.getfield 65, 3) := by decide +kernel
theorem dX9_row_59 : decode cX9_row 59 = .ok (.iload_n 1, 1) := by decide +kernel
theorem dX9_row_60 : decode cX9_row 60 = .ok (.iconst 1, 1) := by decide +kernel
theorem dX9_row_61 : decode cX9_row 61 = .ok (.iastore, 1) := by decide +kernel
theorem dX9_row_62 : decode cX9_row 62 = .ok (.aload_n 0, 1) := by decide +kernel
theorem dX9_row_63 : decode cX9_row 63 = .ok (.getfield 68, 3) := by decide +kernel
theorem dX9_row_66 : decode cX9_row 66 = .ok (.iload_n 1, 1) := by decide +kernel
theorem dX9_row_67 : decode cX9_row 67 = .ok (.iload_n 2, 1) := by decide +kernel
theorem dX9_row_68 : decode cX9_row 68 = .ok (.iastore, 1) := by decide +kernel
theorem dX9_row_69 : decode cX9_row 69 = .ok (.aload_n 0, 1) := by decide +kernel
theorem dX9_row_70 : decode cX9_row 70 = .ok (.getfield 71, 3) := by decide +kernel
theorem dX9_row_73 : decode cX9_row 73 = .ok (.iload_n 1, 1) := by decide +kernel
theorem dX9_row_74 : decode cX9_row 74 = .ok (.iload_n 3, 1) := by decide +kernel
theorem dX9_row_75 : decode cX9_row 75 = .ok (.iastore, 1) := by decide +kernel
theorem dX9_row_76 : decode cX9_row 76 = .ok (.iconst 0, 1) := by decide +kernel
theorem dX9_row_77 : decode cX9_row 77 = .ok (.istore 4, 2) := by decide +kernel
theorem dX9_row_79 : decode cX9_row 79 = .ok (.iload 4, 2) := by decide +kernel
theorem dX9_row_81 : decode cX9_row 81 = .ok (.sipush 160, 3) := by decide +kernel
theorem dX9_row_84 : decode cX9_row 84 = .ok (.if_icmp .ge 23, 3) := by decide +kernel
theorem dX9_row_87 : decode cX9_row 87 = .ok (.aload_n 0, 1) := by decide +kernel
theorem dX9_row_88 : decode cX9_row 88 = .ok (.getfield 77, 3) := by decide +kernel
theorem dX9_row_91 : decode cX9_row 91 = .ok (.sipush 160, 3) := by decide +kernel
theorem dX9_row_94 : decode cX9_row 94 = .ok (.iload_n 1, 1) := by decide +kernel
theorem dX9_row_95 : decode cX9_row 95 = .ok (.imul, 1) := by decide +kernel
theorem dX9_row_96 : decode cX9_row 96 = .ok (.iload 4, 2) := by decide +kernel
theorem dX9_row_98 : decode cX9_row 98 = .ok (.iadd, 1) := by decide +kernel
theorem dX9_row_99 : decode cX9_row 99 = .ok (.lconst 0, 1) := by decide +kernel
theorem dX9_row_100 : decode cX9_row 100 = .ok (.lastore, 1) := by decide +kernel
theorem dX9_row_101 : decode cX9_row 101 = .ok (.iinc 4 1, 3) := by decide +kernel
theorem dX9_row_104 : decode cX9_row 104 = .ok (.goto (-25), 3) := by decide +kernel
theorem dX9_row_107 : decode cX9_row 107 = .ok (.iconst 1, 1) := by decide +kernel
theorem dX9_row_108 : decode cX9_row 108 = .ok (.ireturn, 1) := by decide +kernel
theorem dX9_set_0 : decode cX9_set 0 = .ok (.aload_n 0, 1) := by decide +kernel
theorem dX9_set_1 : decode cX9_set 1 = .ok (.iload_n 1, 1) := by decide +kernel
theorem dX9_set_2 : decode cX9_set 2 = .ok (.invokevirtual 132, 3) := by decide +kernel
theorem dX9_set_5 : decode cX9_set 5 = .ok (.ifCond .ne 9, 3) := by decide +kernel
theorem dX9_set_8 : decode cX9_set 8 = .ok (.aload_n 0, 1) := by decide +kernel
theorem dX9_set_9 : decode cX9_set 9 = .ok (.iconst (-1), 1) := by decide +kernel
theorem dX9_set_10 : decode cX9_set 10 = .ok (.invokevirtual 136, 3) := by decide +kernel
theorem dX9_set_13 : decode cX9_set 13 = .ok (.ireturn, 1) := by decide +kernel
theorem dX9_set_14 : decode cX9_set 14 = .ok (.aload_n 0, 1) := by decide +kernel
theorem dX9_set_15 : decode cX9_set 15 = .ok (.getfield 65, 3) := by decide +kernel
theorem dX9_set_18 : decode cX9_set 18 = .ok (.iload_n 1, 1) := by decide +kernel
theorem dX9_set_19 : decode cX9_set 19 = .ok (.iaload, 1) := by decide +kernel
theorem dX9_set_20 : decode cX9_set 20 = .ok (.iconst 2, 1) := by decide +kernel
theorem dX9_set_21 : decode cX9_set 21 = .ok (.if_icmp .ne 10, 3) := by decide +kernel
theorem dX9_set_24 : decode cX9_set 24 = .ok (.aload_n 0, 1) := by decide +kernel
theorem dX9_set_25 : decode cX9_set 25 = .ok (.bipush (-2), 2) := by decide +kernel
theorem dX9_set_27 : decode cX9_set 27 = .ok (.invokevirtual 136, 3) := by decide +kernel
theorem dX9_set_30 : decode cX9_set 30 = .ok (.ireturn, 1) := by decide +kernel
theorem dX9_set_31 : decode cX9_set 31 = .ok (.aload_n 0, 1) := by decide +kernel
theorem dX9_set_32 : decode cX9_set 32 = .ok (.getfield 65, 3) := by decide +kernel
theorem dX9_set_35 : decode cX9_set 35 = .ok (.iload_n 1, 1) := by decide +kernel
theorem dX9_set_36 : decode cX9_set 36 = .ok (.iaload, 1) := by decide +kernel
theorem dX9_set_37 : decode cX9_set 37 = .ok (.ifCond .ne 10, 3) := by decide +kernel
theorem dX9_set_40 : decode cX9_set 40 = .ok (.aload_n 0, 1) := by decide +kernel
theorem dX9_set_41 : decode cX9_set 41 = .ok (.bipush (-3), 2) := by decide +kernel
theorem dX9_set_43 : decode cX9_set 43 = .ok (.invokevirtual 136, 3) := by decide +kernel
theorem dX9_set_46 : decode cX9_set 46 = .ok (.ireturn, 1) := by decide +kernel
theorem dX9_set_47 : decode cX9_set 47 = .ok (.iload_n 2, 1) := by decide +kernel
theorem dX9_set_48 : decode cX9_set 48 = .ok (.ifCond .lt 13, 3) := by decide +kernel
theorem dX9_set_51 : decode cX9_set 51 = .ok (.iload_n 2, 1) := by decide +kernel
theorem dX9_set_52 : decode cX9_set 52 = .ok (.aload_n 0, 1) := by decide +kernel
theorem dX9_set_53 : decode cX9_set 53 = .ok (.getfield 71, 3) := by decide +kernel
theorem dX9_set_56 : decode cX9_set 56 = .ok (.iload_n 1, 1) := by decide +kernel
theorem dX9_set_57 : decode cX9_set 57 = .ok (.iaload, 1) := by decide +kernel
theorem dX9_set_58 : decode cX9_set 58 = .ok (.if_icmp .lt 10, 3) := by decide +kernel
theorem dX9_set_61 : decode cX9_set 61 = .ok (.aload_n 0, 1) := by decide +kernel
theorem dX9_set_62 : decode cX9_set 62 = .ok (.bipush (-5), 2) := by decide +kernel
theorem dX9_set_64 : decode cX9_set 64 = .ok (.invokevirtual 136, 3) := by decide +kernel
theorem dX9_set_67 : decode cX9_set 67 = .ok (.ireturn, 1) := by decide +kernel
theorem dX9_set_68 : decode cX9_set 68 = .ok (.aload_n 0, 1) := by decide +kernel
theorem dX9_set_69 : decode cX9_set 69 = .ok (.getfield 77, 3) := by decide +kernel
theorem dX9_set_72 : decode cX9_set 72 = .ok (.sipush 160, 3) := by decide +kernel
theorem dX9_set_75 : decode cX9_set 75 = .ok (.iload_n 1, 1) := by decide +kernel
theorem dX9_set_76 : decode cX9_set 76 = .ok (.imul, 1) := by decide +kernel
theorem dX9_set_77 : decode cX9_set 77 = .ok (.iload_n 2, 1) := by decide +kernel
theorem dX9_set_78 : decode cX9_set 78 = .ok (.iadd, 1) := by decide +kernel
theorem dX9_set_79 : decode cX9_set 79 = .ok (.aload_n 0, 1) := by decide +kernel
theorem dX9_set_80 : decode cX9_set 80 = .ok (.getfield 68, 3) := by decide +kernel
theorem dX9_set_83 : decode cX9_set 83 = .ok (.iload_n 1, 1) := by decide +kernel
theorem dX9_set_84 : decode cX9_set 84 = .ok (.iaload, 1) := by decide +kernel
theorem dX9_set_85 : decode cX9_set 85 = .ok (.ifCond .ne 10, 3) := by decide +kernel
theorem dX9_set_88 : decode cX9_set 88 = .ok (.lload_n 3, 1) := by decide +kernel
theorem dX9_set_89 : decode cX9_set 89 = .ok (.l2i, 1) := by decide +kernel
theorem dX9_set_90 : decode cX9_set 90 = .ok (.i2b, 1) := by decide +kernel
theorem dX9_set_91 : decode cX9_set 91 = .ok (.i2l, 1) := by decide +kernel
theorem dX9_set_92 : decode cX9_set 92 = .ok (.goto 37, 3) := by decide +kernel
theorem dX9_set_95 : decode cX9_set 95 = .ok (.aload_n 0, 1) := by decide +kernel
theorem dX9_set_96 : decode cX9_set 96 = .ok (.getfield 68, 3) := by decide +kernel
theorem dX9_set_99 : decode cX9_set 99 = .ok (.iload_n 1, 1) := by decide +kernel
theorem dX9_set_100 : decode cX9_set 100 = .ok (.iaload, 1) := by decide +kernel
theorem dX9_set_101 : decode cX9_set 101 = .ok (.iconst 1, 1) := by decide +kernel
theorem dX9_set_102 : decode cX9_set 102 = .ok (.if_icmp .ne 10, 3) := by decide +kernel
theorem dX9_set_105 : decode cX9_set 105 = .ok (.lload_n 3, 1) := by decide +kernel
theorem dX9_set_106 : decode cX9_set 106 = .ok (.l2i, 1) := by decide +kernel
theorem dX9_set_107 : decode cX9_set 107 = .ok (.i2s, 1) := by decide +kernel
theorem dX9_set_108 : decode cX9_set 108 = .ok (.i2l, 1) := by decide +kernel
theorem dX9_set_109 : decode cX9_set 109 = .ok (.goto 20, 3) := by decide +kernel
theorem dX9_set_112 : decode cX9_set 112 = .ok (.aload_n 0, 1) := by decide +kernel
theorem dX9_set_113 : decode cX9_set 113 = .ok (.getfield 68, 3) := by decide +kernel
theorem dX9_set_116 : decode cX9_set 116 = .ok (.iload_n 1, 1) := by decide +kernel
theorem dX9_set_117 : decode cX9_set 117 = .ok (.iaload, 1) := by decide +kernel
theorem dX9_set_118 : decode cX9_set 118 = .ok (.iconst 2, 1) := by decide +kernel
theorem dX9_set_119 : decode cX9_set 119 = .ok (.if_icmp .ne 9, 3) := by decide +kernel
theorem dX9_set_122 : decode cX9_set 122 = .ok (.lload_n 3, 1) := by decide +kernel
theorem dX9_set_123 : decode cX9_set 123 = .ok (.l2i, 1) := by decide +kernel
theorem dX9_set_124 : decode cX9_set 124 = .ok (.i2l, 1) := by decide +kernel
theorem dX9_set_125 : decode cX9_set 125 = .ok (.goto 4, 3) := by decide +kernel
theorem dX9_set_128 : decode cX9_set 128 = .ok (.lload_n 3, 1) := by decide +kernel
theorem dX9_set_129 : decode cX9_set 129 = .ok (.lastore, 1) := by decide +kernel
theorem dX9_set_130 : decode cX9_set 130 = .ok (.iconst 1, 1) := by decide +kernel
theorem dX9_set_131 : decode cX9_set 131 = .ok (.ireturn, 1) := by decide +kernel
theorem dX9_copy_0 : decode cX9_copy 0 = .ok (.aload_n 0, 1) := by decide +kernel
theorem dX9_copy_1 : decode cX9_copy 1 = .ok (.iload_n 1, 1) := by decide +kernel
theorem dX9_copy_2 : decode cX9_copy 2 = .ok (.invokevirtual 132, 3) := by decide +kernel
theorem dX9_copy_5 : decode cX9_copy 5 = .ok (.ifCond .eq 11, 3) := by decide +kernel
theorem dX9_copy_8 : decode cX9_copy 8 = .ok (.aload_n 0, 1) := by decide +kernel
theorem dX9_copy_9 : decode cX9_copy 9 = .ok (.iload_n 2, 1) := by decide +kernel
theorem dX9_copy_10 : decode cX9_copy 10 = .ok (.invokevirtual 132, 3) := by decide +kernel
theorem dX9_copy_13 : decode cX9_copy 13 = .ok (.ifCond .ne 9, 3) := by decide +kernel
theorem dX9_copy_16 : decode cX9_copy 16 = .ok (.aload_n 0, 1) := by decide +kernel
theorem dX9_copy_17 : decode cX9_copy 17 = .ok (.iconst (-1), 1) := by decide +kernel
theorem dX9_copy_18 : decode cX9_copy 18 = .ok (.invokevirtual 136, 3) := by decide +kernel
theorem dX9_copy_21 : decode cX9_copy 21 = .ok (.ireturn, 1) := by decide +kernel
theorem dX9_copy_22 : decode cX9_copy 22 = .ok (.aload_n 0, 1) := by decide +kernel
theorem dX9_copy_23 : decode cX9_copy 23 = .ok (.getfield 65, 3) := by decide +kernel
theorem dX9_copy_26 : decode cX9_copy 26 = .ok (.iload_n 1, 1) := by decide +kernel
theorem dX9_copy_27 : decode cX9_copy 27 = .ok (.iaload, 1) := by decide +kernel
theorem dX9_copy_28 : decode cX9_copy 28 = .ok (.iconst 2, 1) := by decide +kernel
theorem dX9_copy_29 : decode cX9_copy 29 = .ok (.if_icmp .eq 48, 3) := by decide +kernel
theorem dX9_copy_32 : decode cX9_copy 32 = .ok (.aload_n 0, 1) := by decide +kernel
theorem dX9_copy_33 : decode cX9_copy 33 = .ok (.getfield 65, 3) := by decide +kernel
theorem dX9_copy_36 : decode cX9_copy 36 = .ok (.iload_n 2, 1) := by decide +kernel
theorem dX9_copy_37 : decode cX9_copy 37 = .ok (.iaload, 1) := by decide +kernel
theorem dX9_copy_38 : decode cX9_copy 38 = .ok (.iconst 2, 1) := by decide +kernel
theorem dX9_copy_39 : decode cX9_copy 39 = .ok (.if_icmp .eq 38, 3) := by decide +kernel
theorem dX9_copy_42 : decode cX9_copy 42 = .ok (.aload_n 0, 1) := by decide +kernel
theorem dX9_copy_43 : decode cX9_copy 43 = .ok (.getfield 65, 3) := by decide +kernel
theorem dX9_copy_46 : decode cX9_copy 46 = .ok (.iload_n 1, 1) := by decide +kernel
theorem dX9_copy_47 : decode cX9_copy 47 = .ok (.iaload, 1) := by decide +kernel
theorem dX9_copy_48 : decode cX9_copy 48 = .ok (.iconst 1, 1) := by decide +kernel
theorem dX9_copy_49 : decode cX9_copy 49 = .ok (.if_icmp .ne 35, 3) := by decide +kernel
theorem dX9_copy_52 : decode cX9_copy 52 = .ok (.aload_n 0, 1) := by decide +kernel
theorem dX9_copy_53 : decode cX9_copy 53 = .ok (.getfield 65, 3) := by decide +kernel
theorem dX9_copy_56 : decode cX9_copy 56 = .ok (.iload_n 2, 1) := by decide +kernel
theorem dX9_copy_57 : decode cX9_copy 57 = .ok (.iaload, 1) := by decide +kernel
theorem dX9_copy_58 : decode cX9_copy 58 = .ok (.iconst 1, 1) := by decide +kernel
theorem dX9_copy_59 : decode cX9_copy 59 = .ok (.if_icmp .ne 25, 3) := by decide +kernel
theorem dX9_copy_62 : decode cX9_copy 62 = .ok (.aload_n 0, 1) := by decide +kernel
theorem dX9_copy_63 : decode cX9_copy 63 = .ok (.getfield 68, 3) := by decide +kernel
theorem dX9_copy_66 : decode cX9_copy 66 = .ok (.iload_n 1, 1) := by decide +kernel
theorem dX9_copy_67 : decode cX9_copy 67 = .ok (.iaload, 1) := by decide +kernel
theorem dX9_copy_68 : decode cX9_copy 68 = .ok (.aload_n 0, 1) := by decide +kernel
theorem dX9_copy_69 : decode cX9_copy 69 = .ok (.getfield 68, 3) := by decide +kernel
theorem dX9_copy_72 : decode cX9_copy 72 = .ok (.iload_n 2, 1) := by decide +kernel
theorem dX9_copy_73 : decode cX9_copy 73 = .ok (.iaload, 1) := by decide +kernel
theorem dX9_copy_74 : decode cX9_copy 74 = .ok (.if_icmp .eq 10, 3) := by decide +kernel
theorem dX9_copy_77 : decode cX9_copy 77 = .ok (.aload_n 0, 1) := by decide +kernel
theorem dX9_copy_78 : decode cX9_copy 78 = .ok (.bipush (-2), 2) := by decide +kernel
theorem dX9_copy_80 : decode cX9_copy 80 = .ok (.invokevirtual 136, 3) := by decide +kernel
theorem dX9_copy_83 : decode cX9_copy 83 = .ok (.ireturn, 1) := by decide +kernel
theorem dX9_copy_84 : decode cX9_copy 84 = .ok (.aload_n 0, 1) := by decide +kernel
theorem dX9_copy_85 : decode cX9_copy 85 = .ok (.getfield 65, 3) := by decide +kernel
theorem dX9_copy_88 : decode cX9_copy 88 = .ok (.iload_n 1, 1) := by decide +kernel
theorem dX9_copy_89 : decode cX9_copy 89 = .ok (.iaload, 1) := by decide +kernel
theorem dX9_copy_90 : decode cX9_copy 90 = .ok (.ifCond .eq 12, 3) := by decide +kernel
theorem dX9_copy_93 : decode cX9_copy 93 = .ok (.aload_n 0, 1) := by decide +kernel
theorem dX9_copy_94 : decode cX9_copy 94 = .ok (.getfield 65, 3) := by decide +kernel
theorem dX9_copy_97 : decode cX9_copy 97 = .ok (.iload_n 2, 1) := by decide +kernel
theorem dX9_copy_98 : decode cX9_copy 98 = .ok (.iaload, 1) := by decide +kernel
theorem dX9_copy_99 : decode cX9_copy 99 = .ok (.ifCond .ne 10, 3) := by decide +kernel
theorem dX9_copy_102 : decode cX9_copy 102 = .ok (.aload_n 0, 1) := by decide +kernel
theorem dX9_copy_103 : decode cX9_copy 103 = .ok (.bipush (-3), 2) := by decide +kernel
theorem dX9_copy_105 : decode cX9_copy 105 = .ok (.invokevirtual 136, 3) := by decide +kernel
theorem dX9_copy_108 : decode cX9_copy 108 = .ok (.ireturn, 1) := by decide +kernel
