theorem dX0_init_0 : decode cX0_init 0 = .ok (.aload_n 0, 1) := by decide +kernel
theorem dX0_init_1 : decode cX0_init 1 = .ok (.invokespecial 3, 3) := by decide +kernel
theorem dX0_init_4 : decode cX0_init 4 = .ok (.aload_n 0, 1) := by decide +kernel
theorem dX0_init_5 : decode cX0_init 5 = .ok (.bipush 99, 2) := by decide +kernel
theorem dX0_init_7 : decode cX0_init 7 = .ok (.putfield 11, 3) := by decide +kernel
theorem dX0_init_10 : decode cX0_init 10 = .ok (.return_, 1) := by decide +kernel
theorem dX0_become_0 : decode cX0_become 0 = .ok (.aload_n 0, 1) := by decide +kernel
theorem dX0_become_1 : decode cX0_become 1 = .ok (.iload_n 1, 1) := by decide +kernel
theorem dX0_become_2 : decode cX0_become 2 = .ok (.putfield 15, 3) := by decide +kernel
theorem dX0_become_5 : decode cX0_become 5 = .ok (.aload_n 0, 1) := by decide +kernel
theorem dX0_become_6 : decode cX0_become 6 = .ok (.iload_n 2, 1) := by decide +kernel
theorem dX0_become_7 : decode cX0_become 7 = .ok (.putfield 18, 3) := by decide +kernel
theorem dX0_become_10 : decode cX0_become 10 = .ok (.aload_n 0, 1) := by decide +kernel
theorem dX0_become_11 : decode cX0_become 11 = .ok (.iload_n 3, 1) := by decide +kernel
theorem dX0_become_12 : decode cX0_become 12 = .ok (.putfield 21, 3) := by decide +kernel
theorem dX0_become_15 : decode cX0_become 15 = .ok (.aload_n 0, 1) := by decide +kernel
theorem dX0_become_16 : decode cX0_become 16 = .ok (.iload 4, 2) := by decide +kernel
theorem dX0_become_18 : decode cX0_become 18 = .ok (.putfield 24, 3) := by decide +kernel
theorem dX0_become_21 : decode cX0_become 21 = .ok (.aload_n 0, 1) := by decide +kernel
theorem dX0_become_22 : decode cX0_become 22 = .ok (.iload 5, 2) := by decide +kernel
theorem dX0_become_24 : decode cX0_become 24 = .ok (.putfield 27, 3) := by decide +kernel
theorem dX0_become_27 : decode cX0_become 27 = .ok (.aload_n 0, 1) := by decide +kernel
theorem dX0_become_28 : decode cX0_become 28 = .ok (.iload 6, 2) := by decide +kernel
theorem dX0_become_30 : decode cX0_become 30 = .ok (.putfield 30, 3) := by decide +kernel
theorem dX0_become_33 : decode cX0_become 33 = .ok (.aload_n 0, 1) := by decide +kernel
theorem dX0_become_34 : decode cX0_become 34 = .ok (.bipush 99, 2) := by decide +kernel
theorem dX0_become_36 : decode cX0_become 36 = .ok (.putfield 11, 3) := by decide +kernel
theorem dX0_become_39 : decode cX0_become 39 = .ok (.return_, 1) := by decide +kernel
theorem dX0_becomeLike_0 : decode cX0_becomeLike 0 = .ok (.aload_n 0, 1) := by decide +kernel
theorem dX0_becomeLike_1 : decode cX0_becomeLike 1 = .ok (.aload_n 1, 1) := by decide +kernel
theorem dX0_becomeLike_2 : decode cX0_becomeLike 2 = .ok (.getfield 15, 3) := by decide +kernel
theorem dX0_becomeLike_5 : decode cX0_becomeLike 5 = .ok (.aload_n 1, 1) := by decide +kernel
theorem dX0_becomeLike_6 : decode cX0_becomeLike 6 = .ok (.getfield 18, 3) := by decide +kernel
theorem dX0_becomeLike_9 : decode cX0_becomeLike 9 = .ok (.aload_n 1, 1) := by decide +kernel
theorem dX0_becomeLike_10 : decode cX0_becomeLike 10 = .ok (.getfield 21, 3) := by decide +kernel
theorem dX0_becomeLike_13 : decode cX0_becomeLike 13 = .ok (.aload_n 1, 1) := by decide +kernel
theorem dX0_becomeLike_14 : decode cX0_becomeLike 14 = .ok (.getfield 24, 3) := by decide +kernel
theorem dX0_becomeLike_17 : decode cX0_becomeLike 17 = .ok (.aload_n 1, 1) := by decide +kernel
theorem dX0_becomeLike_18 : decode cX0_becomeLike 18 = .ok (.getfield 27, 3) := by decide +kernel
theorem dX0_becomeLike_21 : decode cX0_becomeLike 21 = .ok (.aload_n 1, 1) := by decide +kernel
theorem dX0_becomeLike_22 : decode cX0_becomeLike 22 = .ok (.getfield 30, 3) := by decide +kernel
theorem dX0_becomeLike_25 : decode cX0_becomeLike 25 = .ok (.invokevirtual 33, 3) := by decide +kernel
theorem dX0_becomeLike_28 : decode cX0_becomeLike 28 = .ok (.aload_n 0, 1) := by decide +kernel
theorem dX0_becomeLike_29 : decode cX0_becomeLike 29 = .ok (.aload_n 1, 1) := by decide +kernel
theorem dX0_becomeLike_30 : decode cX0_becomeLike 30 = .ok (.getfield 11, 3) := by decide +kernel
theorem dX0_becomeLike_33 : decode cX0_becomeLike 33 = .ok (.putfield 11, 3) := by decide +kernel
theorem dX0_becomeLike_36 : decode cX0_becomeLike 36 = .ok (.return_, 1) := by decide +kernel
theorem dX0_isInDrawer_0 : decode cX0_isInDrawer 0 = .ok (.aload_n 0, 1) := by decide +kernel
theorem dX0_isInDrawer_1 : decode cX0_isInDrawer 1 = .ok (.getfield 11, 3) := by decide +kernel
theorem dX0_isInDrawer_4 : decode cX0_isInDrawer 4 = .ok (.bipush 99, 2) := by decide +kernel
theorem dX0_isInDrawer_6 : decode cX0_isInDrawer 6 = .ok (.if_icmp .ne 7, 3) := by decide +kernel
theorem dX0_isInDrawer_9 : decode cX0_isInDrawer 9 = .ok (.iconst 1, 1) := by decide +kernel
theorem dX0_isInDrawer_10 : decode cX0_isInDrawer 10 = .ok (.goto 4, 3) := by decide +kernel
theorem dX0_isInDrawer_13 : decode cX0_isInDrawer 13 = .ok (.iconst 0, 1) := by decide +kernel
theorem dX0_isInDrawer_14 : decode cX0_isInDrawer 14 = .ok (.ireturn, 1) := by decide +kernel
theorem dX0_isOn_0 : decode cX0_isOn 0 = .ok (.aload_n 0, 1) := by decide +kernel
theorem dX0_isOn_1 : decode cX0_isOn 1 = .ok (.getfield 11, 3) := by decide +kernel
theorem dX0_isOn_4 : decode cX0_isOn 4 = .ok (.bipush 10, 2) := by decide +kernel
theorem dX0_isOn_6 : decode cX0_isOn 6 = .ok (.iload_n 1, 1) := by decide +kernel
theorem dX0_isOn_7 : decode cX0_isOn 7 = .ok (.imul, 1) := by decide +kernel
theorem dX0_isOn_8 : decode cX0_isOn 8 = .ok (.iload_n 2, 1) := by decide +kernel
theorem dX0_isOn_9 : decode cX0_isOn 9 = .ok (.iadd, 1) := by decide +kernel
theorem dX0_isOn_10 : decode cX0_isOn 10 = .ok (.if_icmp .ne 7, 3) := by decide +kernel
theorem dX0_isOn_13 : decode cX0_isOn 13 = .ok (.iconst 1, 1) := by decide +kernel
theorem dX0_isOn_14 : decode cX0_isOn 14 = .ok (.goto 4, 3) := by decide +kernel
theorem dX0_isOn_17 : decode cX0_isOn 17 = .ok (.iconst 0, 1) := by decide +kernel
theorem dX0_isOn_18 : decode cX0_isOn 18 = .ok (.ireturn, 1) := by decide +kernel
theorem dX0_comeOn_0 : decode cX0_comeOn 0 = .ok (.aload_n 0, 1) := by decide +kernel
theorem dX0_comeOn_1 : decode cX0_comeOn 1 = .ok (.bipush 10, 2) := by decide +kernel
theorem dX0_comeOn_3 : decode cX0_comeOn 3 = .ok (.iload_n 1, 1) := by decide +kernel
theorem dX0_comeOn_4 : decode cX0_comeOn 4 = .ok (.imul, 1) := by decide +kernel
theorem dX0_comeOn_5 : decode cX0_comeOn 5 = .ok (.iload_n 2, 1) := by decide +kernel
theorem dX0_comeOn_6 : decode cX0_comeOn 6 = .ok (.iadd, 1) := by decide +kernel
theorem dX0_comeOn_7 : decode cX0_comeOn 7 = .ok (.putfield 11, 3) := by decide +kernel
theorem dX0_comeOn_10 : decode cX0_comeOn 10 = .ok (.return_, 1) := by decide +kernel
theorem dX0_comeOff_0 : decode cX0_comeOff 0 = .ok (.aload_n 0, 1) := by decide +kernel
theorem dX0_comeOff_1 : decode cX0_comeOff 1 = .ok (.bipush 99, 2) := by decide +kernel
theorem dX0_comeOff_3 : decode cX0_comeOff 3 = .ok (.putfield 11, 3) := by decide +kernel
theorem dX0_comeOff_6 : decode cX0_comeOff 6 = .ok (.return_, 1) := by decide +kernel
theorem dX0_above_0 : decode cX0_above 0 = .ok (.iload_n 0, 1) := by decide +kernel
theorem dX0_above_1 : decode cX0_above 1 = .ok (.ifCond .le 17, 3) := by decide +kernel
theorem dX0_above_4 : decode cX0_above 4 = .ok (.iload_n 0, 1) := by decide +kernel
theorem dX0_above_5 : decode cX0_above 5 = .ok (.bipush 6, 2) := by decide +kernel
theorem dX0_above_7 : decode cX0_above 7 = .ok (.if_icmp .gt 11, 3) := by decide +kernel
theorem dX0_above_10 : decode cX0_above 10 = .ok (.getstatic 37, 3) := by decide +kernel
theorem dX0_above_13 : decode cX0_above 13 = .ok (.iload_n 0, 1) := by decide +kernel
theorem dX0_above_14 : decode cX0_above 14 = .ok (.iaload, 1) := by decide +kernel
theorem dX0_above_15 : decode cX0_above 15 = .ok (.goto 4, 3) := by decide +kernel
theorem dX0_above_18 : decode cX0_above 18 = .ok (.iconst (-1), 1) := by decide +kernel
theorem dX0_above_19 : decode cX0_above 19 = .ok (.ireturn, 1) := by decide +kernel
theorem dX0_isOf_0 : decode cX0_isOf 0 = .ok (.aload_n 0, 1) := by decide +kernel
theorem dX0_isOf_1 : decode cX0_isOf 1 = .ok (.getfield 15, 3) := by decide +kernel
theorem dX0_isOf_4 : decode cX0_isOf 4 = .ok (.istore_n 2, 1) := by decide +kernel
theorem dX0_isOf_5 : decode cX0_isOf 5 = .ok (.iconst 0, 1) := by decide +kernel
theorem dX0_isOf_6 : decode cX0_isOf 6 = .ok (.istore_n 3, 1) := by decide +kernel
theorem dX0_isOf_7 : decode cX0_isOf 7 = .ok (.iload_n 3, 1) := by decide +kernel
theorem dX0_isOf_8 : decode cX0_isOf 8 = .ok (.bipush 6, 2) := by decide +kernel
theorem dX0_isOf_10 : decode cX0_isOf 10 = .ok (.if_icmp .gt 26, 3) := by decide +kernel
theorem dX0_isOf_13 : decode cX0_isOf 13 = .ok (.iload_n 2, 1) := by decide +kernel
theorem dX0_isOf_14 : decode cX0_isOf 14 = .ok (.iconst (-1), 1) := by decide +kernel
theorem dX0_isOf_15 : decode cX0_isOf 15 = .ok (.if_icmp .eq 21, 3) := by decide +kernel
theorem dX0_isOf_18 : decode cX0_isOf 18 = .ok (.iload_n 2, 1) := by decide +kernel
theorem dX0_isOf_19 : decode cX0_isOf 19 = .ok (.iload_n 1, 1) := by decide +kernel
theorem dX0_isOf_20 : decode cX0_isOf 20 = .ok (.if_icmp .ne 5, 3) := by decide +kernel
theorem dX0_isOf_23 : decode cX0_isOf 23 = .ok (.iconst 1, 1) := by decide +kernel
theorem dX0_isOf_24 : decode cX0_isOf 24 = .ok (.ireturn, 1) := by decide +kernel
theorem dX0_isOf_25 : decode cX0_isOf 25 = .ok (.iload_n 2, 1) := by decide +kernel
theorem dX0_isOf_26 : decode cX0_isOf 26 = .ok (.invokestatic 41, 3) := by decide +kernel
theorem dX0_isOf_29 : decode cX0_isOf 29 = .ok (.istore_n 2, 1) := by decide +kernel
theorem dX0_isOf_30 : decode cX0_isOf 30 = .ok (.iinc 3 1, 3) := by decide +kernel
theorem dX0_isOf_33 : decode cX0_isOf 33 = .ok (.goto (-26), 3) := by decide +kernel
theorem dX0_isOf_36 : decode cX0_isOf 36 = .ok (.iconst 0, 1) := by decide +kernel
theorem dX0_isOf_37 : decode cX0_isOf 37 = .ok (.ireturn, 1) := by decide +kernel
theorem dX0_saysAs_0 : decode cX0_saysAs 0 = .ok (.iload_n 1, 1) := by decide +kernel
theorem dX0_saysAs_1 : decode cX0_saysAs 1 = .ok (.tableswitch 58 0 5 #[39, 58, 49, 58, 44, 49], 39) := by decide +kernel
theorem dX0_saysAs_40 : decode cX0_saysAs 40 = .ok (.aload_n 0, 1) := by decide +kernel
theorem dX0_saysAs_41 : decode cX0_saysAs 41 = .ok (.getfield 24, 3) := by decide +kernel
theorem dX0_saysAs_44 : decode cX0_saysAs 44 = .ok (.ireturn, 1) := by decide +kernel
theorem dX0_saysAs_45 : decode cX0_saysAs 45 = .ok (.aload_n 0, 1) := by decide +kernel
theorem dX0_saysAs_46 : decode cX0_saysAs 46 = .ok (.getfield 21, 3) := by decide +kernel
theorem dX0_saysAs_49 : decode cX0_saysAs 49 = .ok (.ireturn, 1) := by decide +kernel
theorem dX0_saysAs_50 : decode cX0_saysAs 50 = .ok (.aload_n 0, 1) := by decide +kernel
theorem dX0_saysAs_51 : decode cX0_saysAs 51 = .ok (.aload_n 0, 1) := by decide +kernel
theorem dX0_saysAs_52 : decode cX0_saysAs 52 = .ok (.getfield 30, 3) := by decide +kernel
theorem dX0_saysAs_55 : decode cX0_saysAs 55 = .ok (.invokevirtual 45, 3) := by decide +kernel
theorem dX0_saysAs_58 : decode cX0_saysAs 58 = .ok (.ireturn, 1) := by decide +kernel
theorem dX0_saysAs_59 : decode cX0_saysAs 59 = .ok (.aload_n 0, 1) := by decide +kernel
theorem dX0_saysAs_60 : decode cX0_saysAs 60 = .ok (.aload_n 0, 1) := by decide +kernel
theorem dX0_saysAs_61 : decode cX0_saysAs 61 = .ok (.getfield 27, 3) := by decide +kernel
theorem dX0_saysAs_64 : decode cX0_saysAs 64 = .ok (.invokevirtual 48, 3) := by decide +kernel
theorem dX0_saysAs_67 : decode cX0_saysAs 67 = .ok (.ireturn, 1) := by decide +kernel
theorem dX0_figure_0 : decode cX0_figure 0 = .ok (.iload_n 1, 1) := by decide +kernel
theorem dX0_figure_1 : decode cX0_figure 1 = .ok (.tableswitch 95 0 7 #[47, 52, 57, 62, 67, 72, 77, 86], 47) := by decide +kernel
theorem dX0_figure_48 : decode cX0_figure 48 = .ok (.aload_n 0, 1) := by decide +kernel
theorem dX0_figure_49 : decode cX0_figure 49 = .ok (.getfield 15, 3) := by decide +kernel
theorem dX0_figure_52 : decode cX0_figure 52 = .ok (.ireturn, 1) := by decide +kernel
theorem dX0_figure_53 : decode cX0_figure 53 = .ok (.aload_n 0, 1) := by decide +kernel
theorem dX0_figure_54 : decode cX0_figure 54 = .ok (.getfield 18, 3) := by decide +kernel
theorem dX0_figure_57 : decode cX0_figure 57 = .ok (.ireturn, 1) := by decide +kernel
theorem dX0_figure_58 : decode cX0_figure 58 = .ok (.aload_n 0, 1) := by decide +kernel
theorem dX0_figure_59 : decode cX0_figure 59 = .ok (.getfield 21, 3) := by decide +kernel
theorem dX0_figure_62 : decode cX0_figure 62 = .ok (.ireturn, 1) := by decide +kernel
theorem dX0_figure_63 : decode cX0_figure 63 = .ok (.aload_n 0, 1) := by decide +kernel
theorem dX0_figure_64 : decode cX0_figure 64 = .ok (.getfield 24, 3) := by decide +kernel
theorem dX0_figure_67 : decode cX0_figure 67 = .ok (.ireturn, 1) := by decide +kernel
theorem dX0_figure_68 : decode cX0_figure 68 = .ok (.aload_n 0, 1) := by decide +kernel
theorem dX0_figure_69 : decode cX0_figure 69 = .ok (.getfield 27, 3) := by decide +kernel
theorem dX0_figure_72 : decode cX0_figure 72 = .ok (.ireturn, 1) := by decide +kernel
theorem dX0_figure_73 : decode cX0_figure 73 = .ok (.aload_n 0, 1) := by decide +kernel
theorem dX0_figure_74 : decode cX0_figure 74 = .ok (.getfield 30, 3) := by decide +kernel
theorem dX0_figure_77 : decode cX0_figure 77 = .ok (.ireturn, 1) := by decide +kernel
theorem dX0_figure_78 : decode cX0_figure 78 = .ok (.aload_n 0, 1) := by decide +kernel
theorem dX0_figure_79 : decode cX0_figure 79 = .ok (.aload_n 0, 1) := by decide +kernel
theorem dX0_figure_80 : decode cX0_figure 80 = .ok (.getfield 27, 3) := by decide +kernel
theorem dX0_figure_83 : decode cX0_figure 83 = .ok (.invokevirtual 48, 3) := by decide +kernel
theorem dX0_figure_86 : decode cX0_figure 86 = .ok (.ireturn, 1) := by decide +kernel
theorem dX0_figure_87 : decode cX0_figure 87 = .ok (.aload_n 0, 1) := by decide +kernel
theorem dX0_figure_88 : decode cX0_figure 88 = .ok (.aload_n 0, 1) := by decide +kernel
theorem dX0_figure_89 : decode cX0_figure 89 = .ok (.getfield 30, 3) := by decide +kernel
theorem dX0_figure_92 : decode cX0_figure 92 = .ok (.invokevirtual 45, 3) := by decide +kernel
theorem dX0_figure_95 : decode cX0_figure 95 = .ok (.ireturn, 1) := by decide +kernel
theorem dX0_figure_96 : decode cX0_figure 96 = .ok (.aload_n 0, 1) := by decide +kernel
theorem dX0_figure_97 : decode cX0_figure 97 = .ok (.getfield 11, 3) := by decide +kernel
theorem dX0_figure_100 : decode cX0_figure 100 = .ok (.ireturn, 1) := by decide +kernel
theorem dX0_shadeSeen_0 : decode cX0_shadeSeen 0 = .ok (.aload_n 0, 1) := by decide +kernel
theorem dX0_shadeSeen_1 : decode cX0_shadeSeen 1 = .ok (.getfield 15, 3) := by decide +kernel
theorem dX0_shadeSeen_4 : decode cX0_shadeSeen 4 = .ok (.iconst 1, 1) := by decide +kernel
theorem dX0_shadeSeen_5 : decode cX0_shadeSeen 5 = .ok (.if_icmp .eq 20, 3) := by decide +kernel
theorem dX0_shadeSeen_8 : decode cX0_shadeSeen 8 = .ok (.aload_n 0, 1) := by decide +kernel
theorem dX0_shadeSeen_9 : decode cX0_shadeSeen 9 = .ok (.getfield 15, 3) := by decide +kernel
theorem dX0_shadeSeen_12 : decode cX0_shadeSeen 12 = .ok (.iconst 3, 1) := by decide +kernel
theorem dX0_shadeSeen_13 : decode cX0_shadeSeen 13 = .ok (.if_icmp .eq 12, 3) := by decide +kernel
theorem dX0_shadeSeen_16 : decode cX0_shadeSeen 16 = .ok (.aload_n 0, 1) := by decide +kernel
theorem dX0_shadeSeen_17 : decode cX0_shadeSeen 17 = .ok (.getfield 15, 3) := by decide +kernel
theorem dX0_shadeSeen_20 : decode cX0_shadeSeen 20 = .ok (.bipush 6, 2) := by decide +kernel
theorem dX0_shadeSeen_22 : decode cX0_shadeSeen 22 = .ok (.if_icmp .ne 7, 3) := by decide +kernel
theorem dX0_shadeSeen_25 : decode cX0_shadeSeen 25 = .ok (.iconst 1, 1) := by decide +kernel
theorem dX0_shadeSeen_26 : decode cX0_shadeSeen 26 = .ok (.goto 4, 3) := by decide +kernel
theorem dX0_shadeSeen_29 : decode cX0_shadeSeen 29 = .ok (.iconst 0, 1) := by decide +kernel
theorem dX0_shadeSeen_30 : decode cX0_shadeSeen 30 = .ok (.istore_n 2, 1) := by decide +kernel
theorem dX0_shadeSeen_31 : decode cX0_shadeSeen 31 = .ok (.iload_n 2, 1) := by decide +kernel
theorem dX0_shadeSeen_32 : decode cX0_shadeSeen 32 = .ok (.ifCond .eq 17, 3) := by decide +kernel
theorem dX0_shadeSeen_35 : decode cX0_shadeSeen 35 = .ok (.bipush 9, 2) := by decide +kernel
theorem dX0_shadeSeen_37 : decode cX0_shadeSeen 37 = .ok (.iload_n 1, 1) := by decide +kernel
theorem dX0_shadeSeen_38 : decode cX0_shadeSeen 38 = .ok (.aload_n 0, 1) := by decide +kernel
theorem dX0_shadeSeen_39 : decode cX0_shadeSeen 39 = .ok (.getfield 18, 3) := by decide +kernel
theorem dX0_shadeSeen_42 : decode cX0_shadeSeen 42 = .ok (.iadd, 1) := by decide +kernel
theorem dX0_shadeSeen_43 : decode cX0_shadeSeen 43 = .ok (.invokestatic 51, 3) := by decide +kernel
theorem dX0_shadeSeen_46 : decode cX0_shadeSeen 46 = .ok (.goto 4, 3) := by decide +kernel
theorem dX0_shadeSeen_49 : decode cX0_shadeSeen 49 = .ok (.iload_n 1, 1) := by decide +kernel
theorem dX0_shadeSeen_50 : decode cX0_shadeSeen 50 = .ok (.ireturn, 1) := by decide +kernel
theorem dX0_wearSeen_0 : decode cX0_wearSeen 0 = .ok (.aload_n 0, 1) := by decide +kernel
theorem dX0_wearSeen_1 : decode cX0_wearSeen 1 = .ok (.getfield 15, 3) := by decide +kernel
theorem dX0_wearSeen_4 : decode cX0_wearSeen 4 = .ok (.tableswitch 69 2 6 #[36, 46, 69, 38, 55], 36) := by decide +kernel
theorem dX0_wearSeen_40 : decode cX0_wearSeen 40 = .ok (.iconst 0, 1) := by decide +kernel
theorem dX0_wearSeen_41 : decode cX0_wearSeen 41 = .ok (.ireturn, 1) := by decide +kernel
theorem dX0_wearSeen_42 : decode cX0_wearSeen 42 = .ok (.bipush 9, 2) := by decide +kernel
theorem dX0_wearSeen_44 : decode cX0_wearSeen 44 = .ok (.aload_n 0, 1) := by decide +kernel
theorem dX0_wearSeen_45 : decode cX0_wearSeen 45 = .ok (.getfield 18, 3) := by decide +kernel
theorem dX0_wearSeen_48 : decode cX0_wearSeen 48 = .ok (.isub, 1) := by decide +kernel
theorem dX0_wearSeen_49 : decode cX0_wearSeen 49 = .ok (.ireturn, 1) := by decide +kernel
theorem dX0_wearSeen_50 : decode cX0_wearSeen 50 = .ok (.bipush 9, 2) := by decide +kernel
theorem dX0_wearSeen_52 : decode cX0_wearSeen 52 = .ok (.iload_n 1, 1) := by decide +kernel
theorem dX0_wearSeen_53 : decode cX0_wearSeen 53 = .ok (.iconst 1, 1) := by decide +kernel
theorem dX0_wearSeen_54 : decode cX0_wearSeen 54 = .ok (.iadd, 1) := by decide +kernel
theorem dX0_wearSeen_55 : decode cX0_wearSeen 55 = .ok (.invokestatic 51, 3) := by decide +kernel
theorem dX0_wearSeen_58 : decode cX0_wearSeen 58 = .ok (.ireturn, 1) := by decide +kernel
theorem dX0_wearSeen_59 : decode cX0_wearSeen 59 = .ok (.bipush 9, 2) := by decide +kernel
theorem dX0_wearSeen_61 : decode cX0_wearSeen 61 = .ok (.iload_n 1, 1) := by decide +kernel
theorem dX0_wearSeen_62 : decode cX0_wearSeen 62 = .ok (.iconst 1, 1) := by decide +kernel
theorem dX0_wearSeen_63 : decode cX0_wearSeen 63 = .ok (.iadd, 1) := by decide +kernel
theorem dX0_wearSeen_64 : decode cX0_wearSeen 64 = .ok (.aload_n 0, 1) := by decide +kernel
theorem dX0_wearSeen_65 : decode cX0_wearSeen 65 = .ok (.getfield 18, 3) := by decide +kernel
theorem dX0_wearSeen_68 : decode cX0_wearSeen 68 = .ok (.iadd, 1) := by decide +kernel
theorem dX0_wearSeen_69 : decode cX0_wearSeen 69 = .ok (.invokestatic 51, 3) := by decide +kernel
theorem dX0_wearSeen_72 : decode cX0_wearSeen 72 = .ok (.ireturn, 1) := by decide +kernel
theorem dX0_wearSeen_73 : decode cX0_wearSeen 73 = .ok (.iload_n 1, 1) := by decide +kernel
theorem dX0_wearSeen_74 : decode cX0_wearSeen 74 = .ok (.ireturn, 1) := by decide +kernel
theorem dX0_suits_0 : decode cX0_suits 0 = .ok (.aload_n 0, 1) := by decide +kernel
theorem dX0_suits_1 : decode cX0_suits 1 = .ok (.getfield 15, 3) := by decide +kernel
theorem dX0_suits_4 : decode cX0_suits 4 = .ok (.bipush 6, 2) := by decide +kernel
theorem dX0_suits_6 : decode cX0_suits 6 = .ok (.if_icmp .ne 7, 3) := by decide +kernel
theorem dX0_suits_9 : decode cX0_suits 9 = .ok (.iconst 2, 1) := by decide +kernel
theorem dX0_suits_10 : decode cX0_suits 10 = .ok (.goto 4, 3) := by decide +kernel
theorem dX0_suits_13 : decode cX0_suits 13 = .ok (.iconst 1, 1) := by decide +kernel
theorem dX0_suits_14 : decode cX0_suits 14 = .ok (.istore_n 3, 1) := by decide +kernel
theorem dX0_suits_15 : decode cX0_suits 15 = .ok (.aload_n 0, 1) := by decide +kernel
theorem dX0_suits_16 : decode cX0_suits 16 = .ok (.getfield 15, 3) := by decide +kernel
theorem dX0_suits_19 : decode cX0_suits 19 = .ok (.iconst 4, 1) := by decide +kernel
theorem dX0_suits_20 : decode cX0_suits 20 = .ok (.if_icmp .eq 11, 3) := by decide +kernel
theorem dX0_suits_23 : decode cX0_suits 23 = .ok (.aload_n 0, 1) := by decide +kernel
theorem dX0_suits_24 : decode cX0_suits 24 = .ok (.getfield 21, 3) := by decide +kernel
theorem dX0_suits_27 : decode cX0_suits 27 = .ok (.iload_n 2, 1) := by decide +kernel
theorem dX0_suits_28 : decode cX0_suits 28 = .ok (.if_icmp .ne 23, 3) := by decide +kernel
theorem dX0_suits_31 : decode cX0_suits 31 = .ok (.aload_n 0, 1) := by decide +kernel
theorem dX0_suits_32 : decode cX0_suits 32 = .ok (.getfield 24, 3) := by decide +kernel
theorem dX0_suits_35 : decode cX0_suits 35 = .ok (.aload_n 1, 1) := by decide +kernel
theorem dX0_suits_36 : decode cX0_suits 36 = .ok (.getfield 57, 3) := by decide +kernel
theorem dX0_suits_39 : decode cX0_suits 39 = .ok (.isub, 1) := by decide +kernel
theorem dX0_suits_40 : decode cX0_suits 40 = .ok (.invokestatic 60, 3) := by decide +kernel
theorem dX0_suits_43 : decode cX0_suits 43 = .ok (.iload_n 3, 1) := by decide +kernel
theorem dX0_suits_44 : decode cX0_suits 44 = .ok (.if_icmp .gt 7, 3) := by decide +kernel
theorem dX0_suits_47 : decode cX0_suits 47 = .ok (.iconst 1, 1) := by decide +kernel
theorem dX0_suits_48 : decode cX0_suits 48 = .ok (.goto 4, 3) := by decide +kernel
theorem dX0_suits_51 : decode cX0_suits 51 = .ok (.iconst 0, 1) := by decide +kernel
theorem dX0_suits_52 : decode cX0_suits 52 = .ok (.ireturn, 1) := by decide +kernel
theorem dX0_farFrom_0 : decode cX0_farFrom 0 = .ok (.aload_n 0, 1) := by decide +kernel
theorem dX0_farFrom_1 : decode cX0_farFrom 1 = .ok (.aload_n 1, 1) := by decide +kernel
theorem dX0_farFrom_2 : decode cX0_farFrom 2 = .ok (.aload_n 0, 1) := by decide +kernel
theorem dX0_farFrom_3 : decode cX0_farFrom 3 = .ok (.getfield 27, 3) := by decide +kernel
theorem dX0_farFrom_6 : decode cX0_farFrom 6 = .ok (.aload_n 0, 1) := by decide +kernel
theorem dX0_farFrom_7 : decode cX0_farFrom 7 = .ok (.getfield 30, 3) := by decide +kernel
theorem dX0_farFrom_10 : decode cX0_farFrom 10 = .ok (.invokevirtual 63, 3) := by decide +kernel
theorem dX0_farFrom_13 : decode cX0_farFrom 13 = .ok (.ireturn, 1) := by decide +kernel
theorem dX0_farIf_0 : decode cX0_farIf 0 = .ok (.iconst 2, 1) := by decide +kernel
theorem dX0_farIf_1 : decode cX0_farIf 1 = .ok (.aload_n 0, 1) := by decide +kernel
theorem dX0_farIf_2 : decode cX0_farIf 2 = .ok (.getfield 24, 3) := by decide +kernel
theorem dX0_farIf_5 : decode cX0_farIf 5 = .ok (.aload_n 1, 1) := by decide +kernel
theorem dX0_farIf_6 : decode cX0_farIf 6 = .ok (.getfield 57, 3) := by decide +kernel
theorem dX0_farIf_9 : decode cX0_farIf 9 = .ok (.isub, 1) := by decide +kernel
theorem dX0_farIf_10 : decode cX0_farIf 10 = .ok (.invokestatic 60, 3) := by decide +kernel
theorem dX0_farIf_13 : decode cX0_farIf 13 = .ok (.imul, 1) := by decide +kernel
theorem dX0_farIf_14 : decode cX0_farIf 14 = .ok (.istore 4, 2) := by decide +kernel
theorem dX0_farIf_16 : decode cX0_farIf 16 = .ok (.aload_n 1, 1) := by decide +kernel
theorem dX0_farIf_17 : decode cX0_farIf 17 = .ok (.getfield 67, 3) := by decide +kernel
theorem dX0_farIf_20 : decode cX0_farIf 20 = .ok (.iconst 2, 1) := by decide +kernel
theorem dX0_farIf_21 : decode cX0_farIf 21 = .ok (.if_icmp .ne 6, 3) := by decide +kernel
theorem dX0_farIf_24 : decode cX0_farIf 24 = .ok (.iload 4, 2) := by decide +kernel
theorem dX0_farIf_26 : decode cX0_farIf 26 = .ok (.ireturn, 1) := by decide +kernel
theorem dX0_farIf_27 : decode cX0_farIf 27 = .ok (.iload 4, 2) := by decide +kernel
theorem dX0_farIf_29 : decode cX0_farIf 29 = .ok (.aload_n 0, 1) := by decide +kernel
theorem dX0_farIf_30 : decode cX0_farIf 30 = .ok (.iload_n 2, 1) := by decide +kernel
theorem dX0_farIf_31 : decode cX0_farIf 31 = .ok (.invokevirtual 48, 3) := by decide +kernel
theorem dX0_farIf_34 : decode cX0_farIf 34 = .ok (.aload_n 1, 1) := by decide +kernel
theorem dX0_farIf_35 : decode cX0_farIf 35 = .ok (.getfield 70, 3) := by decide +kernel
theorem dX0_farIf_38 : decode cX0_farIf 38 = .ok (.isub, 1) := by decide +kernel
theorem dX0_farIf_39 : decode cX0_farIf 39 = .ok (.invokestatic 60, 3) := by decide +kernel
theorem dX0_farIf_42 : decode cX0_farIf 42 = .ok (.iadd, 1) := by decide +kernel
theorem dX0_farIf_43 : decode cX0_farIf 43 = .ok (.istore 4, 2) := by decide +kernel
theorem dX0_farIf_45 : decode cX0_farIf 45 = .ok (.aload_n 0, 1) := by decide +kernel
theorem dX0_farIf_46 : decode cX0_farIf 46 = .ok (.iload_n 3, 1) := by decide +kernel
theorem dX0_farIf_47 : decode cX0_farIf 47 = .ok (.invokevirtual 45, 3) := by decide +kernel
theorem dX0_farIf_50 : decode cX0_farIf 50 = .ok (.istore 5, 2) := by decide +kernel
theorem dX0_farIf_52 : decode cX0_farIf 52 = .ok (.iload 4, 2) := by decide +kernel
theorem dX0_farIf_54 : decode cX0_farIf 54 = .ok (.aload_n 1, 1) := by decide +kernel
theorem dX0_farIf_55 : decode cX0_farIf 55 = .ok (.getfield 67, 3) := by decide +kernel
theorem dX0_farIf_58 : decode cX0_farIf 58 = .ok (.iconst 1, 1) := by decide +kernel
theorem dX0_farIf_59 : decode cX0_farIf 59 = .ok (.if_icmp .ne 8, 3) := by decide +kernel
theorem dX0_farIf_62 : decode cX0_farIf 62 = .ok (.iload 5, 2) := by decide +kernel
theorem dX0_farIf_64 : decode cX0_farIf 64 = .ok (.goto 13, 3) := by decide +kernel
theorem dX0_farIf_67 : decode cX0_farIf 67 = .ok (.iload 5, 2) := by decide +kernel
theorem dX0_farIf_69 : decode cX0_farIf 69 = .ok (.aload_n 1, 1) := by decide +kernel
theorem dX0_farIf_70 : decode cX0_farIf 70 = .ok (.getfield 71, 3) := by decide +kernel
theorem dX0_farIf_73 : decode cX0_farIf 73 = .ok (.isub, 1) := by decide +kernel
theorem dX0_farIf_74 : decode cX0_farIf 74 = .ok (.invokestatic 60, 3) := by decide +kernel
theorem dX0_farIf_77 : decode cX0_farIf 77 = .ok (.iadd, 1) := by decide +kernel
theorem dX0_farIf_78 : decode cX0_farIf 78 = .ok (.ireturn, 1) := by decide +kernel
theorem dX0_minutesInTea_0 : decode cX0_minutesInTea 0 = .ok (.iconst 0, 1) := by decide +kernel
theorem dX0_minutesInTea_1 : decode cX0_minutesInTea 1 = .ok (.istore_n 2, 1) := by decide +kernel
theorem dX0_minutesInTea_2 : decode cX0_minutesInTea 2 = .ok (.aload_n 0, 1) := by decide +kernel
theorem dX0_minutesInTea_3 : decode cX0_minutesInTea 3 = .ok (.aload_n 1, 1) := by decide +kernel
theorem dX0_minutesInTea_4 : decode cX0_minutesInTea 4 = .ok (.invokevirtual 72, 3) := by decide +kernel
theorem dX0_minutesInTea_7 : decode cX0_minutesInTea 7 = .ok (.istore_n 3, 1) := by decide +kernel
theorem dX0_minutesInTea_8 : decode cX0_minutesInTea 8 = .ok (.iconst 1, 1) := by decide +kernel
theorem dX0_minutesInTea_9 : decode cX0_minutesInTea 9 = .ok (.istore 4, 2) := by decide +kernel
theorem dX0_minutesInTea_11 : decode cX0_minutesInTea 11 = .ok (.iload 4, 2) := by decide +kernel
theorem dX0_minutesInTea_13 : decode cX0_minutesInTea 13 = .ok (.bipush 9, 2) := by decide +kernel
theorem dX0_minutesInTea_15 : decode cX0_minutesInTea 15 = .ok (.if_icmp .gt 44, 3) := by decide +kernel
theorem dX0_minutesInTea_18 : decode cX0_minutesInTea 18 = .ok (.aload_n 0, 1) := by decide +kernel
theorem dX0_minutesInTea_19 : decode cX0_minutesInTea 19 = .ok (.aload_n 1, 1) := by decide +kernel
theorem dX0_minutesInTea_20 : decode cX0_minutesInTea 20 = .ok (.bipush 9, 2) := by decide +kernel
theorem dX0_minutesInTea_22 : decode cX0_minutesInTea 22 = .ok (.aload_n 0, 1) := by decide +kernel
theorem dX0_minutesInTea_23 : decode cX0_minutesInTea 23 = .ok (.getfield 27, 3) := by decide +kernel
theorem dX0_minutesInTea_26 : decode cX0_minutesInTea 26 = .ok (.iload 4, 2) := by decide +kernel
theorem dX0_minutesInTea_28 : decode cX0_minutesInTea 28 = .ok (.iadd, 1) := by decide +kernel
theorem dX0_minutesInTea_29 : decode cX0_minutesInTea 29 = .ok (.invokestatic 51, 3) := by decide +kernel
theorem dX0_minutesInTea_32 : decode cX0_minutesInTea 32 = .ok (.aload_n 0, 1) := by decide +kernel
theorem dX0_minutesInTea_33 : decode cX0_minutesInTea 33 = .ok (.getfield 30, 3) := by decide +kernel
theorem dX0_minutesInTea_36 : decode cX0_minutesInTea 36 = .ok (.invokevirtual 63, 3) := by decide +kernel
theorem dX0_minutesInTea_39 : decode cX0_minutesInTea 39 = .ok (.istore 5, 2) := by decide +kernel
theorem dX0_minutesInTea_41 : decode cX0_minutesInTea 41 = .ok (.iload 5, 2) := by decide +kernel
theorem dX0_minutesInTea_43 : decode cX0_minutesInTea 43 = .ok (.iload_n 3, 1) := by decide +kernel
theorem dX0_minutesInTea_44 : decode cX0_minutesInTea 44 = .ok (.if_icmp .ge 9, 3) := by decide +kernel
theorem dX0_minutesInTea_47 : decode cX0_minutesInTea 47 = .ok (.iload 5, 2) := by decide +kernel
theorem dX0_minutesInTea_49 : decode cX0_minutesInTea 49 = .ok (.istore_n 3, 1) := by decide +kernel
theorem dX0_minutesInTea_50 : decode cX0_minutesInTea 50 = .ok (.iload 4, 2) := by decide +kernel
theorem dX0_minutesInTea_52 : decode cX0_minutesInTea 52 = .ok (.istore_n 2, 1) := by decide +kernel
theorem dX0_minutesInTea_53 : decode cX0_minutesInTea 53 = .ok (.iinc 4 1, 3) := by decide +kernel
theorem dX0_minutesInTea_56 : decode cX0_minutesInTea 56 = .ok (.goto (-45), 3) := by decide +kernel
theorem dX0_minutesInTea_59 : decode cX0_minutesInTea 59 = .ok (.iload_n 2, 1) := by decide +kernel
theorem dX0_minutesInTea_60 : decode cX0_minutesInTea 60 = .ok (.ireturn, 1) := by decide +kernel
theorem dX1_init_0 : decode cX1_init 0 = .ok (.aload_n 0, 1) := by decide +kernel
theorem dX1_init_1 : decode cX1_init 1 = .ok (.invokespecial 3, 3) := by decide +kernel
theorem dX1_init_4 : decode cX1_init 4 = .ok (.return_, 1) := by decide +kernel
theorem dX1_become_0 : decode cX1_become 0 = .ok (.aload_n 0, 1) := by decide +kernel
theorem dX1_become_1 : decode cX1_become 1 = .ok (.iload_n 1, 1) := by decide +kernel
theorem dX1_become_2 : decode cX1_become 2 = .ok (.putfield 9, 3) := by decide +kernel
theorem dX1_become_5 : decode cX1_become 5 = .ok (.aload_n 0, 1) := by decide +kernel
theorem dX1_become_6 : decode cX1_become 6 = .ok (.iload_n 2, 1) := by decide +kernel
theorem dX1_become_7 : decode cX1_become 7 = .ok (.putfield 15, 3) := by decide +kernel
theorem dX1_become_10 : decode cX1_become 10 = .ok (.aload_n 0, 1) := by decide +kernel
theorem dX1_become_11 : decode cX1_become 11 = .ok (.iload_n 3, 1) := by decide +kernel
theorem dX1_become_12 : decode cX1_become 12 = .ok (.putfield 18, 3) := by decide +kernel
theorem dX1_become_15 : decode cX1_become 15 = .ok (.aload_n 0, 1) := by decide +kernel
theorem dX1_become_16 : decode cX1_become 16 = .ok (.iload 4, 2) := by decide +kernel
theorem dX1_become_18 : decode cX1_become 18 = .ok (.putfield 21, 3) := by decide +kernel
theorem dX1_become_21 : decode cX1_become 21 = .ok (.aload_n 0, 1) := by decide +kernel
theorem dX1_become_22 : decode cX1_become 22 = .ok (.iload 5, 2) := by decide +kernel
theorem dX1_become_24 : decode cX1_become 24 = .ok (.putfield 24, 3) := by decide +kernel
theorem dX1_become_27 : decode cX1_become 27 = .ok (.aload_n 0, 1) := by decide +kernel
theorem dX1_become_28 : decode cX1_become 28 = .ok (.iload 6, 2) := by decide +kernel
theorem dX1_become_30 : decode cX1_become 30 = .ok (.putfield 27, 3) := by decide +kernel
theorem dX1_become_33 : decode cX1_become 33 = .ok (.aload_n 0, 1) := by decide +kernel
theorem dX1_become_34 : decode cX1_become 34 = .ok (.iload 7, 2) := by decide +kernel
theorem dX1_become_36 : decode cX1_become 36 = .ok (.putfield 30, 3) := by decide +kernel
theorem dX1_become_39 : decode cX1_become 39 = .ok (.aload_n 0, 1) := by decide +kernel
theorem dX1_become_40 : decode cX1_become 40 = .ok (.iconst 0, 1) := by decide +kernel
theorem dX1_become_41 : decode cX1_become 41 = .ok (.putfield 33, 3) := by decide +kernel
theorem dX1_become_44 : decode cX1_become 44 = .ok (.return_, 1) := by decide +kernel
theorem dX1_becomeLike_0 : decode cX1_becomeLike 0 = .ok (.aload_n 0, 1) := by decide +kernel
theorem dX1_becomeLike_1 : decode cX1_becomeLike 1 = .ok (.aload_n 1, 1) := by decide +kernel
theorem dX1_becomeLike_2 : decode cX1_becomeLike 2 = .ok (.getfield 9, 3) := by decide +kernel
theorem dX1_becomeLike_5 : decode cX1_becomeLike 5 = .ok (.aload_n 1, 1) := by decide +kernel
theorem dX1_becomeLike_6 : decode cX1_becomeLike 6 = .ok (.getfield 15, 3) := by decide +kernel
theorem dX1_becomeLike_9 : decode cX1_becomeLike 9 = .ok (.aload_n 1, 1) := by decide +kernel
theorem dX1_becomeLike_10 : decode cX1_becomeLike 10 = .ok (.getfield 18, 3) := by decide +kernel
theorem dX1_becomeLike_13 : decode cX1_becomeLike 13 = .ok (.aload_n 1, 1) := by decide +kernel
theorem dX1_becomeLike_14 : decode cX1_becomeLike 14 = .ok (.getfield 21, 3) := by decide +kernel
theorem dX1_becomeLike_17 : decode cX1_becomeLike 17 = .ok (.aload_n 1, 1) := by decide +kernel
theorem dX1_becomeLike_18 : decode cX1_becomeLike 18 = .ok (.getfield 24, 3) := by decide +kernel
theorem dX1_becomeLike_21 : decode cX1_becomeLike 21 = .ok (.aload_n 1, 1) := by decide +kernel
theorem dX1_becomeLike_22 : decode cX1_becomeLike 22 = .ok (.getfield 27, 3) := by decide +kernel
theorem dX1_becomeLike_25 : decode cX1_becomeLike 25 = .ok (.aload_n 1, 1) := by decide +kernel
theorem dX1_becomeLike_26 : decode cX1_becomeLike 26 = .ok (.getfield 30, 3) := by decide +kernel
theorem dX1_becomeLike_29 : decode cX1_becomeLike 29 = .ok (.invokevirtual 36, 3) := by decide +kernel
theorem dX1_becomeLike_32 : decode cX1_becomeLike 32 = .ok (.aload_n 0, 1) := by decide +kernel
theorem dX1_becomeLike_33 : decode cX1_becomeLike 33 = .ok (.aload_n 1, 1) := by decide +kernel
theorem dX1_becomeLike_34 : decode cX1_becomeLike 34 = .ok (.getfield 33, 3) := by decide +kernel
theorem dX1_becomeLike_37 : decode cX1_becomeLike 37 = .ok (.putfield 33, 3) := by decide +kernel
theorem dX1_becomeLike_40 : decode cX1_becomeLike 40 = .ok (.return_, 1) := by decide +kernel
theorem dX1_mostOf_0 : decode cX1_mostOf 0 = .ok (.iload_n 0, 1) := by decide +kernel
theorem dX1_mostOf_1 : decode cX1_mostOf 1 = .ok (.tableswitch 42 0 3 #[31, 33, 36, 39], 31) := by decide +kernel
theorem dX1_mostOf_32 : decode cX1_mostOf 32 = .ok (.iconst 2, 1) := by decide +kernel
theorem dX1_mostOf_33 : decode cX1_mostOf 33 = .ok (.ireturn, 1) := by decide +kernel
theorem dX1_mostOf_34 : decode cX1_mostOf 34 = .ok (.bipush 9, 2) := by decide +kernel
theorem dX1_mostOf_36 : decode cX1_mostOf 36 = .ok (.ireturn, 1) := by decide +kernel
theorem dX1_mostOf_37 : decode cX1_mostOf 37 = .ok (.bipush 40, 2) := by decide +kernel
theorem dX1_mostOf_39 : decode cX1_mostOf 39 = .ok (.ireturn, 1) := by decide +kernel
theorem dX1_mostOf_40 : decode cX1_mostOf 40 = .ok (.bipush 99, 2) := by decide +kernel
theorem dX1_mostOf_42 : decode cX1_mostOf 42 = .ok (.ireturn, 1) := by decide +kernel
theorem dX1_mostOf_43 : decode cX1_mostOf 43 = .ok (.iconst (-1), 1) := by decide +kernel
theorem dX1_mostOf_44 : decode cX1_mostOf 44 = .ok (.ireturn, 1) := by decide +kernel
theorem dX1_retell_0 : decode cX1_retell 0 = .ok (.iload_n 1, 1) := by decide +kernel
theorem dX1_retell_1 : decode cX1_retell 1 = .ok (.tableswitch 66 0 2 #[27, 40, 53], 27) := by decide +kernel
theorem dX1_retell_28 : decode cX1_retell 28 = .ok (.aload_n 0, 1) := by decide +kernel
theorem dX1_retell_29 : decode cX1_retell 29 = .ok (.getfield 21, 3) := by decide +kernel
theorem dX1_retell_32 : decode cX1_retell 32 = .ok (.istore_n 3, 1) := by decide +kernel
theorem dX1_retell_33 : decode cX1_retell 33 = .ok (.aload_n 0, 1) := by decide +kernel
theorem dX1_retell_34 : decode cX1_retell 34 = .ok (.iload_n 2, 1) := by decide +kernel
theorem dX1_retell_35 : decode cX1_retell 35 = .ok (.putfield 21, 3) := by decide +kernel
theorem dX1_retell_38 : decode cX1_retell 38 = .ok (.goto 39, 3) := by decide +kernel
theorem dX1_retell_41 : decode cX1_retell 41 = .ok (.aload_n 0, 1) := by decide +kernel
theorem dX1_retell_42 : decode cX1_retell 42 = .ok (.getfield 27, 3) := by decide +kernel
theorem dX1_retell_45 : decode cX1_retell 45 = .ok (.istore_n 3, 1) := by decide +kernel
theorem dX1_retell_46 : decode cX1_retell 46 = .ok (.aload_n 0, 1) := by decide +kernel
theorem dX1_retell_47 : decode cX1_retell 47 = .ok (.iload_n 2, 1) := by decide +kernel
theorem dX1_retell_48 : decode cX1_retell 48 = .ok (.putfield 27, 3) := by decide +kernel
theorem dX1_retell_51 : decode cX1_retell 51 = .ok (.goto 26, 3) := by decide +kernel
theorem dX1_retell_54 : decode cX1_retell 54 = .ok (.aload_n 0, 1) := by decide +kernel
theorem dX1_retell_55 : decode cX1_retell 55 = .ok (.getfield 30, 3) := by decide +kernel
theorem dX1_retell_58 : decode cX1_retell 58 = .ok (.istore_n 3, 1) := by decide +kernel
theorem dX1_retell_59 : decode cX1_retell 59 = .ok (.aload_n 0, 1) := by decide +kernel
theorem dX1_retell_60 : decode cX1_retell 60 = .ok (.iload_n 2, 1) := by decide +kernel
theorem dX1_retell_61 : decode cX1_retell 61 = .ok (.putfield 30, 3) := by decide +kernel
theorem dX1_retell_64 : decode cX1_retell 64 = .ok (.goto 13, 3) := by decide +kernel
theorem dX1_retell_67 : decode cX1_retell 67 = .ok (.aload_n 0, 1) := by decide +kernel
theorem dX1_retell_68 : decode cX1_retell 68 = .ok (.getfield 33, 3) := by decide +kernel
theorem dX1_retell_71 : decode cX1_retell 71 = .ok (.istore_n 3, 1) := by decide +kernel
theorem dX1_retell_72 : decode cX1_retell 72 = .ok (.aload_n 0, 1) := by decide +kernel
theorem dX1_retell_73 : decode cX1_retell 73 = .ok (.iload_n 2, 1) := by decide +kernel
theorem dX1_retell_74 : decode cX1_retell 74 = .ok (.putfield 33, 3) := by decide +kernel
theorem dX1_retell_77 : decode cX1_retell 77 = .ok (.iload_n 3, 1) := by decide +kernel
theorem dX1_retell_78 : decode cX1_retell 78 = .ok (.ireturn, 1) := by decide +kernel
theorem dX1_figure_0 : decode cX1_figure 0 = .ok (.iload_n 1, 1) := by decide +kernel
theorem dX1_figure_1 : decode cX1_figure 1 = .ok (.tableswitch 78 0 6 #[43, 48, 53, 58, 63, 68, 73], 43) := by decide +kernel
theorem dX1_figure_44 : decode cX1_figure 44 = .ok (.aload_n 0, 1) := by decide +kernel
theorem dX1_figure_45 : decode cX1_figure 45 = .ok (.getfield 9, 3) := by decide +kernel
theorem dX1_figure_48 : decode cX1_figure 48 = .ok (.ireturn, 1) := by decide +kernel
theorem dX1_figure_49 : decode cX1_figure 49 = .ok (.aload_n 0, 1) := by decide +kernel
theorem dX1_figure_50 : decode cX1_figure 50 = .ok (.getfield 15, 3) := by decide +kernel
theorem dX1_figure_53 : decode cX1_figure 53 = .ok (.ireturn, 1) := by decide +kernel
theorem dX1_figure_54 : decode cX1_figure 54 = .ok (.aload_n 0, 1) := by decide +kernel
theorem dX1_figure_55 : decode cX1_figure 55 = .ok (.getfield 18, 3) := by decide +kernel
theorem dX1_figure_58 : decode cX1_figure 58 = .ok (.ireturn, 1) := by decide +kernel
theorem dX1_figure_59 : decode cX1_figure 59 = .ok (.aload_n 0, 1) := by decide +kernel
theorem dX1_figure_60 : decode cX1_figure 60 = .ok (.getfield 21, 3) := by decide +kernel
theorem dX1_figure_63 : decode cX1_figure 63 = .ok (.ireturn, 1) := by decide +kernel
theorem dX1_figure_64 : decode cX1_figure 64 = .ok (.aload_n 0, 1) := by decide +kernel
theorem dX1_figure_65 : decode cX1_figure 65 = .ok (.getfield 24, 3) := by decide +kernel
theorem dX1_figure_68 : decode cX1_figure 68 = .ok (.ireturn, 1) := by decide +kernel
theorem dX1_figure_69 : decode cX1_figure 69 = .ok (.aload_n 0, 1) := by decide +kernel
theorem dX1_figure_70 : decode cX1_figure 70 = .ok (.getfield 27, 3) := by decide +kernel
theorem dX1_figure_73 : decode cX1_figure 73 = .ok (.ireturn, 1) := by decide +kernel
theorem dX1_figure_74 : decode cX1_figure 74 = .ok (.aload_n 0, 1) := by decide +kernel
theorem dX1_figure_75 : decode cX1_figure 75 = .ok (.getfield 30, 3) := by decide +kernel
theorem dX1_figure_78 : decode cX1_figure 78 = .ok (.ireturn, 1) := by decide +kernel
theorem dX1_figure_79 : decode cX1_figure 79 = .ok (.aload_n 0, 1) := by decide +kernel
theorem dX1_figure_80 : decode cX1_figure 80 = .ok (.getfield 33, 3) := by decide +kernel
theorem dX1_figure_83 : decode cX1_figure 83 = .ok (.ireturn, 1) := by decide +kernel
theorem dX2_init_0 : decode cX2_init 0 = .ok (.aload_n 0, 1) := by decide +kernel
theorem dX2_init_1 : decode cX2_init 1 = .ok (.invokespecial 3, 3) := by decide +kernel
theorem dX2_init_4 : decode cX2_init 4 = .ok (.aload_n 0, 1) := by decide +kernel
theorem dX2_init_5 : decode cX2_init 5 = .ok (.iconst 0, 1) := by decide +kernel
theorem dX2_init_6 : decode cX2_init 6 = .ok (.putfield 9, 3) := by decide +kernel
theorem dX2_init_9 : decode cX2_init 9 = .ok (.aload_n 0, 1) := by decide +kernel
theorem dX2_init_10 : decode cX2_init 10 = .ok (.bipush 20, 2) := by decide +kernel
theorem dX2_init_12 : decode cX2_init 12 = .ok (.newarray .int, 2) := by decide +kernel
theorem dX2_init_14 : decode cX2_init 14 = .ok (.putfield 15, 3) := by decide +kernel
theorem dX2_init_17 : decode cX2_init 17 = .ok (.aload_n 0, 1) := by decide +kernel
theorem dX2_init_18 : decode cX2_init 18 = .ok (.iconst (-1), 1) := by decide +kernel
theorem dX2_init_19 : decode cX2_init 19 = .ok (.putfield 19, 3) := by decide +kernel
theorem dX2_init_22 : decode cX2_init 22 = .ok (.aload_n 0, 1) := by decide +kernel
theorem dX2_init_23 : decode cX2_init 23 = .ok (.aload_n 1, 1) := by decide +kernel
theorem dX2_init_24 : decode cX2_init 24 = .ok (.putfield 22, 3) := by decide +kernel
theorem dX2_init_27 : decode cX2_init 27 = .ok (.return_, 1) := by decide +kernel
theorem dX2_forget_0 : decode cX2_forget 0 = .ok (.aload_n 0, 1) := by decide +kernel
theorem dX2_forget_1 : decode cX2_forget 1 = .ok (.iconst 0, 1) := by decide +kernel
theorem dX2_forget_2 : decode cX2_forget 2 = .ok (.putfield 9, 3) := by decide +kernel
theorem dX2_forget_5 : decode cX2_forget 5 = .ok (.return_, 1) := by decide +kernel
theorem dX2_bodyAt_0 : decode cX2_bodyAt 0 = .ok (.iload_n 1, 1) := by decide +kernel
theorem dX2_bodyAt_1 : decode cX2_bodyAt 1 = .ok (.ifCond .lt 26, 3) := by decide +kernel
theorem dX2_bodyAt_4 : decode cX2_bodyAt 4 = .ok (.iload_n 1, 1) := by decide +kernel
theorem dX2_bodyAt_5 : decode cX2_bodyAt 5 = .ok (.aload_n 0, 1) := by decide +kernel
theorem dX2_bodyAt_6 : decode cX2_bodyAt 6 = .ok (.getfield 9, 3) := by decide +kernel
theorem dX2_bodyAt_9 : decode cX2_bodyAt 9 = .ok (.if_icmp .ge 18, 3) := by decide +kernel
theorem dX2_bodyAt_12 : decode cX2_bodyAt 12 = .ok (.iload_n 1, 1) := by decide +kernel
theorem dX2_bodyAt_13 : decode cX2_bodyAt 13 = .ok (.bipush 20, 2) := by decide +kernel
theorem dX2_bodyAt_15 : decode cX2_bodyAt 15 = .ok (.if_icmp .ge 12, 3) := by decide +kernel
theorem dX2_bodyAt_18 : decode cX2_bodyAt 18 = .ok (.aload_n 0, 1) := by decide +kernel
theorem dX2_bodyAt_19 : decode cX2_bodyAt 19 = .ok (.getfield 15, 3) := by decide +kernel
theorem dX2_bodyAt_22 : decode cX2_bodyAt 22 = .ok (.iload_n 1, 1) := by decide +kernel
theorem dX2_bodyAt_23 : decode cX2_bodyAt 23 = .ok (.iaload, 1) := by decide +kernel
theorem dX2_bodyAt_24 : decode cX2_bodyAt 24 = .ok (.goto 4, 3) := by decide +kernel
theorem dX2_bodyAt_27 : decode cX2_bodyAt 27 = .ok (.iconst (-1), 1) := by decide +kernel
theorem dX2_bodyAt_28 : decode cX2_bodyAt 28 = .ok (.ireturn, 1) := by decide +kernel
theorem dX2_make_0 : decode cX2_make 0 = .ok (.aload_n 0, 1) := by decide +kernel
theorem dX2_make_1 : decode cX2_make 1 = .ok (.aload_n 1, 1) := by decide +kernel
theorem dX2_make_2 : decode cX2_make 2 = .ok (.putfield 22, 3) := by decide +kernel
theorem dX2_make_5 : decode cX2_make 5 = .ok (.aload_n 0, 1) := by decide +kernel
theorem dX2_make_6 : decode cX2_make 6 = .ok (.iload_n 2, 1) := by decide +kernel
theorem dX2_make_7 : decode cX2_make 7 = .ok (.putfield 19, 3) := by decide +kernel
theorem dX2_make_10 : decode cX2_make 10 = .ok (.aload_n 0, 1) := by decide +kernel
theorem dX2_make_11 : decode cX2_make 11 = .ok (.aload_n 0, 1) := by decide +kernel
theorem dX2_make_12 : decode cX2_make 12 = .ok (.getfield 22, 3) := by decide +kernel
theorem dX2_make_15 : decode cX2_make 15 = .ok (.getfield 26, 3) := by decide +kernel
theorem dX2_make_18 : decode cX2_make 18 = .ok (.iload_n 3, 1) := by decide +kernel
theorem dX2_make_19 : decode cX2_make 19 = .ok (.iload 4, 2) := by decide +kernel
theorem dX2_make_21 : decode cX2_make 21 = .ok (.iconst 0, 1) := by decide +kernel
theorem dX2_make_22 : decode cX2_make 22 = .ok (.invokevirtual 31, 3) := by decide +kernel
theorem dX2_make_25 : decode cX2_make 25 = .ok (.ireturn, 1) := by decide +kernel
theorem dX2_note_0 : decode cX2_note 0 = .ok (.aload_n 0, 1) := by decide +kernel
theorem dX2_note_1 : decode cX2_note 1 = .ok (.getfield 9, 3) := by decide +kernel
theorem dX2_note_4 : decode cX2_note 4 = .ok (.bipush 20, 2) := by decide +kernel
theorem dX2_note_6 : decode cX2_note 6 = .ok (.if_icmp .ge 13, 3) := by decide +kernel
theorem dX2_note_9 : decode cX2_note 9 = .ok (.aload_n 0, 1) := by decide +kernel
theorem dX2_note_10 : decode cX2_note 10 = .ok (.getfield 15, 3) := by decide +kernel
theorem dX2_note_13 : decode cX2_note 13 = .ok (.aload_n 0, 1) := by decide +kernel
theorem dX2_note_14 : decode cX2_note 14 = .ok (.getfield 9, 3) := by decide +kernel
theorem dX2_note_17 : decode cX2_note 17 = .ok (.iload_n 1, 1) := by decide +kernel
theorem dX2_note_18 : decode cX2_note 18 = .ok (.iastore, 1) := by decide +kernel
theorem dX2_note_19 : decode cX2_note 19 = .ok (.aload_n 0, 1) := by decide +kernel
theorem dX2_note_20 : decode cX2_note 20 = .ok (.dup, 1) := by decide +kernel
theorem dX2_note_21 : decode cX2_note 21 = .ok (.getfield 9, 3) := by decide +kernel
theorem dX2_note_24 : decode cX2_note 24 = .ok (.iconst 1, 1) := by decide +kernel
theorem dX2_note_25 : decode cX2_note 25 = .ok (.iadd, 1) := by decide +kernel
theorem dX2_note_26 : decode cX2_note 26 = .ok (.putfield 9, 3) := by decide +kernel
theorem dX2_note_29 : decode cX2_note 29 = .ok (.return_, 1) := by decide +kernel
theorem dX2_run_0 : decode cX2_run 0 = .ok (.iload 4, 2) := by decide +kernel
theorem dX2_run_2 : decode cX2_run 2 = .ok (.bipush 40, 2) := by decide +kernel
theorem dX2_run_4 : decode cX2_run 4 = .ok (.if_icmp .le 5, 3) := by decide +kernel
theorem dX2_run_7 : decode cX2_run 7 = .ok (.iconst 0, 1) := by decide +kernel
theorem dX2_run_8 : decode cX2_run 8 = .ok (.ireturn, 1) := by decide +kernel
theorem dX2_run_9 : decode cX2_run 9 = .ok (.iload_n 1, 1) := by decide +kernel
theorem dX2_run_10 : decode cX2_run 10 = .ok (.istore 5, 2) := by decide +kernel
theorem dX2_run_12 : decode cX2_run 12 = .ok (.iconst 0, 1) := by decide +kernel
theorem dX2_run_13 : decode cX2_run 13 = .ok (.istore 6, 2) := by decide +kernel
theorem dX2_run_15 : decode cX2_run 15 = .ok (.iload 6, 2) := by decide +kernel
theorem dX2_run_17 : decode cX2_run 17 = .ok (.bipush 6, 2) := by decide +kernel
theorem dX2_run_19 : decode cX2_run 19 = .ok (.if_icmp .gt 58, 3) := by decide +kernel
theorem dX2_run_22 : decode cX2_run 22 = .ok (.iload 5, 2) := by decide +kernel
theorem dX2_run_24 : decode cX2_run 24 = .ok (.iconst (-1), 1) := by decide +kernel
theorem dX2_run_25 : decode cX2_run 25 = .ok (.if_icmp .eq 52, 3) := by decide +kernel
theorem dX2_run_28 : decode cX2_run 28 = .ok (.iload 5, 2) := by decide +kernel
theorem dX2_run_30 : decode cX2_run 30 = .ok (.iload_n 2, 1) := by decide +kernel
theorem dX2_run_31 : decode cX2_run 31 = .ok (.invokestatic 35, 3) := by decide +kernel
theorem dX2_run_34 : decode cX2_run 34 = .ok (.istore 7, 2) := by decide +kernel
theorem dX2_run_36 : decode cX2_run 36 = .ok (.iload 7, 2) := by decide +kernel
theorem dX2_run_38 : decode cX2_run 38 = .ok (.ifCond .eq 26, 3) := by decide +kernel
theorem dX2_run_41 : decode cX2_run 41 = .ok (.aload_n 0, 1) := by decide +kernel
theorem dX2_run_42 : decode cX2_run 42 = .ok (.iload 7, 2) := by decide +kernel
theorem dX2_run_44 : decode cX2_run 44 = .ok (.invokevirtual 39, 3) := by decide +kernel
theorem dX2_run_47 : decode cX2_run 47 = .ok (.aload_n 0, 1) := by decide +kernel
theorem dX2_run_48 : decode cX2_run 48 = .ok (.iload 7, 2) := by decide +kernel
theorem dX2_run_50 : decode cX2_run 50 = .ok (.iload 5, 2) := by decide +kernel
theorem dX2_run_52 : decode cX2_run 52 = .ok (.invokestatic 43, 3) := by decide +kernel
theorem dX2_run_55 : decode cX2_run 55 = .ok (.iload_n 3, 1) := by decide +kernel
theorem dX2_run_56 : decode cX2_run 56 = .ok (.iload 4, 2) := by decide +kernel
theorem dX2_run_58 : decode cX2_run 58 = .ok (.iconst 1, 1) := by decide +kernel
theorem dX2_run_59 : decode cX2_run 59 = .ok (.iadd, 1) := by decide +kernel
theorem dX2_run_60 : decode cX2_run 60 = .ok (.invokevirtual 47, 3) := by decide +kernel
theorem dX2_run_63 : decode cX2_run 63 = .ok (.ireturn, 1) := by decide +kernel
theorem dX2_run_64 : decode cX2_run 64 = .ok (.iload 5, 2) := by decide +kernel
theorem dX2_run_66 : decode cX2_run 66 = .ok (.invokestatic 43, 3) := by decide +kernel
theorem dX2_run_69 : decode cX2_run 69 = .ok (.istore 5, 2) := by decide +kernel
theorem dX2_run_71 : decode cX2_run 71 = .ok (.iinc 6 1, 3) := by decide +kernel
theorem dX2_run_74 : decode cX2_run 74 = .ok (.goto (-59), 3) := by decide +kernel
theorem dX2_run_77 : decode cX2_run 77 = .ok (.iconst 0, 1) := by decide +kernel
theorem dX2_run_78 : decode cX2_run 78 = .ok (.ireturn, 1) := by decide +kernel
theorem dX2_bodyOf_0 : decode cX2_bodyOf 0 = .ok (.iload_n 0, 1) := by decide +kernel
theorem dX2_bodyOf_1 : decode cX2_bodyOf 1 = .ok (.iconst 0, 1) := by decide +kernel
theorem dX2_bodyOf_2 : decode cX2_bodyOf 2 = .ok (.bipush 6, 2) := by decide +kernel
theorem dX2_bodyOf_4 : decode cX2_bodyOf 4 = .ok (.invokestatic 50, 3) := by decide +kernel
theorem dX2_bodyOf_7 : decode cX2_bodyOf 7 = .ok (.ifCond .eq 16, 3) := by decide +kernel
theorem dX2_bodyOf_10 : decode cX2_bodyOf 10 = .ok (.iload_n 1, 1) := by decide +kernel
theorem dX2_bodyOf_11 : decode cX2_bodyOf 11 = .ok (.iconst 0, 1) := by decide +kernel
theorem dX2_bodyOf_12 : decode cX2_bodyOf 12 = .ok (.iconst 2, 1) := by decide +kernel
theorem dX2_bodyOf_13 : decode cX2_bodyOf 13 = .ok (.invokestatic 50, 3) := by decide +kernel
theorem dX2_bodyOf_16 : decode cX2_bodyOf 16 = .ok (.ifCond .eq 7, 3) := by decide +kernel
theorem dX2_bodyOf_19 : decode cX2_bodyOf 19 = .ok (.iconst 1, 1) := by decide +kernel
theorem dX2_bodyOf_20 : decode cX2_bodyOf 20 = .ok (.goto 4, 3) := by decide +kernel
theorem dX2_bodyOf_23 : decode cX2_bodyOf 23 = .ok (.iconst 0, 1) := by decide +kernel
theorem dX2_bodyOf_24 : decode cX2_bodyOf 24 = .ok (.istore_n 2, 1) := by decide +kernel
theorem dX2_bodyOf_25 : decode cX2_bodyOf 25 = .ok (.iload_n 2, 1) := by decide +kernel
theorem dX2_bodyOf_26 : decode cX2_bodyOf 26 = .ok (.ifCond .eq 15, 3) := by decide +kernel
theorem dX2_bodyOf_29 : decode cX2_bodyOf 29 = .ok (.getstatic 54, 3) := by decide +kernel
theorem dX2_bodyOf_32 : decode cX2_bodyOf 32 = .ok (.iconst 3, 1) := by decide +kernel
theorem dX2_bodyOf_33 : decode cX2_bodyOf 33 = .ok (.iload_n 0, 1) := by decide +kernel
theorem dX2_bodyOf_34 : decode cX2_bodyOf 34 = .ok (.imul, 1) := by decide +kernel
theorem dX2_bodyOf_35 : decode cX2_bodyOf 35 = .ok (.iload_n 1, 1) := by decide +kernel
theorem dX2_bodyOf_36 : decode cX2_bodyOf 36 = .ok (.iadd, 1) := by decide +kernel
theorem dX2_bodyOf_37 : decode cX2_bodyOf 37 = .ok (.iaload, 1) := by decide +kernel
theorem dX2_bodyOf_38 : decode cX2_bodyOf 38 = .ok (.goto 4, 3) := by decide +kernel
theorem dX2_bodyOf_41 : decode cX2_bodyOf 41 = .ok (.iconst 0, 1) := by decide +kernel
theorem dX2_bodyOf_42 : decode cX2_bodyOf 42 = .ok (.ireturn, 1) := by decide +kernel
theorem dX2_outcome_0 : decode cX2_outcome 0 = .ok (.iload_n 1, 1) := by decide +kernel
theorem dX2_outcome_1 : decode cX2_outcome 1 = .ok (.lookupswitch 274 #[(10, 99), (11, 106), (12, 124), (20, 164), (30, 182), (40, 194), (50, 206), (51, 217), (60, 232), (70, 244), (71, 256)], 99) := by decide +kernel
theorem dX2_outcome_100 : decode cX2_outcome 100 = .ok (.iload_n 3, 1) := by decide +kernel
theorem dX2_outcome_101 : decode cX2_outcome 101 = .ok (.aload_n 0, 1) := by decide +kernel
theorem dX2_outcome_102 : decode cX2_outcome 102 = .ok (.getfield 19, 3) := by decide +kernel
theorem dX2_outcome_105 : decode cX2_outcome 105 = .ok (.iadd, 1) := by decide +kernel
theorem dX2_outcome_106 : decode cX2_outcome 106 = .ok (.ireturn, 1) := by decide +kernel
theorem dX2_outcome_107 : decode cX2_outcome 107 = .ok (.aload_n 0, 1) := by decide +kernel
theorem dX2_outcome_108 : decode cX2_outcome 108 = .ok (.aload_n 0, 1) := by decide +kernel
theorem dX2_outcome_109 : decode cX2_outcome 109 = .ok (.getfield 22, 3) := by decide +kernel
theorem dX2_outcome_112 : decode cX2_outcome 112 = .ok (.getfield 26, 3) := by decide +kernel
theorem dX2_outcome_115 : decode cX2_outcome 115 = .ok (.iconst 0, 1) := by decide +kernel
theorem dX2_outcome_116 : decode cX2_outcome 116 = .ok (.iload_n 3, 1) := by decide +kernel
theorem dX2_outcome_117 : decode cX2_outcome 117 = .ok (.iload 4, 2) := by decide +kernel
theorem dX2_outcome_119 : decode cX2_outcome 119 = .ok (.invokevirtual 31, 3) := by decide +kernel
theorem dX2_outcome_122 : decode cX2_outcome 122 = .ok (.iconst 2, 1) := by decide +kernel
theorem dX2_outcome_123 : decode cX2_outcome 123 = .ok (.imul, 1) := by decide +kernel
theorem dX2_outcome_124 : decode cX2_outcome 124 = .ok (.ireturn, 1) := by decide +kernel
theorem dX2_outcome_125 : decode cX2_outcome 125 = .ok (.aload_n 0, 1) := by decide +kernel
theorem dX2_outcome_126 : decode cX2_outcome 126 = .ok (.aload_n 0, 1) := by decide +kernel
theorem dX2_outcome_127 : decode cX2_outcome 127 = .ok (.getfield 22, 3) := by decide +kernel
theorem dX2_outcome_130 : decode cX2_outcome 130 = .ok (.getfield 26, 3) := by decide +kernel
theorem dX2_outcome_133 : decode cX2_outcome 133 = .ok (.iconst 1, 1) := by decide +kernel
theorem dX2_outcome_134 : decode cX2_outcome 134 = .ok (.iload_n 3, 1) := by decide +kernel
theorem dX2_outcome_135 : decode cX2_outcome 135 = .ok (.iload 4, 2) := by decide +kernel
theorem dX2_outcome_137 : decode cX2_outcome 137 = .ok (.invokevirtual 31, 3) := by decide +kernel
theorem dX2_outcome_140 : decode cX2_outcome 140 = .ok (.aload_n 0, 1) := by decide +kernel
theorem dX2_outcome_141 : decode cX2_outcome 141 = .ok (.aload_n 0, 1) := by decide +kernel
theorem dX2_outcome_142 : decode cX2_outcome 142 = .ok (.getfield 22, 3) := by decide +kernel
theorem dX2_outcome_145 : decode cX2_outcome 145 = .ok (.getfield 26, 3) := by decide +kernel
theorem dX2_outcome_148 : decode cX2_outcome 148 = .ok (.iconst 0, 1) := by decide +kernel
theorem dX2_outcome_149 : decode cX2_outcome 149 = .ok (.iload_n 3, 1) := by decide +kernel
theorem dX2_outcome_150 : decode cX2_outcome 150 = .ok (.aload_n 0, 1) := by decide +kernel
theorem dX2_outcome_151 : decode cX2_outcome 151 = .ok (.getfield 22, 3) := by decide +kernel
theorem dX2_outcome_154 : decode cX2_outcome 154 = .ok (.getfield 57, 3) := by decide +kernel
theorem dX2_outcome_157 : decode cX2_outcome 157 = .ok (.isub, 1) := by decide +kernel
theorem dX2_outcome_158 : decode cX2_outcome 158 = .ok (.iload 4, 2) := by decide +kernel
theorem dX2_outcome_160 : decode cX2_outcome 160 = .ok (.invokevirtual 31, 3) := by decide +kernel
theorem dX2_outcome_163 : decode cX2_outcome 163 = .ok (.ixor, 1) := by decide +kernel
theorem dX2_outcome_164 : decode cX2_outcome 164 = .ok (.ireturn, 1) := by decide +kernel
theorem dX2_outcome_165 : decode cX2_outcome 165 = .ok (.aload_n 0, 1) := by decide +kernel
theorem dX2_outcome_166 : decode cX2_outcome 166 = .ok (.iload_n 2, 1) := by decide +kernel
theorem dX2_outcome_167 : decode cX2_outcome 167 = .ok (.iconst 0, 1) := by decide +kernel
theorem dX2_outcome_168 : decode cX2_outcome 168 = .ok (.iload_n 3, 1) := by decide +kernel
theorem dX2_outcome_169 : decode cX2_outcome 169 = .ok (.iload 4, 2) := by decide +kernel
theorem dX2_outcome_171 : decode cX2_outcome 171 = .ok (.invokevirtual 31, 3) := by decide +kernel
theorem dX2_outcome_174 : decode cX2_outcome 174 = .ok (.aload_n 0, 1) := by decide +kernel
theorem dX2_outcome_175 : decode cX2_outcome 175 = .ok (.getfield 22, 3) := by decide +kernel
theorem dX2_outcome_178 : decode cX2_outcome 178 = .ok (.getfield 57, 3) := by decide +kernel
theorem dX2_outcome_181 : decode cX2_outcome 181 = .ok (.iadd, 1) := by decide +kernel
theorem dX2_outcome_182 : decode cX2_outcome 182 = .ok (.ireturn, 1) := by decide +kernel
theorem dX2_outcome_183 : decode cX2_outcome 183 = .ok (.aload_n 0, 1) := by decide +kernel
theorem dX2_outcome_184 : decode cX2_outcome 184 = .ok (.iload_n 2, 1) := by decide +kernel
theorem dX2_outcome_185 : decode cX2_outcome 185 = .ok (.iconst 1, 1) := by decide +kernel
theorem dX2_outcome_186 : decode cX2_outcome 186 = .ok (.iload_n 3, 1) := by decide +kernel
theorem dX2_outcome_187 : decode cX2_outcome 187 = .ok (.iload 4, 2) := by decide +kernel
theorem dX2_outcome_189 : decode cX2_outcome 189 = .ok (.invokevirtual 31, 3) := by decide +kernel
theorem dX2_outcome_192 : decode cX2_outcome 192 = .ok (.iconst 3, 1) := by decide +kernel
theorem dX2_outcome_193 : decode cX2_outcome 193 = .ok (.imul, 1) := by decide +kernel
theorem dX2_outcome_194 : decode cX2_outcome 194 = .ok (.ireturn, 1) := by decide +kernel
theorem dX2_outcome_195 : decode cX2_outcome 195 = .ok (.aload_n 0, 1) := by decide +kernel
theorem dX2_outcome_196 : decode cX2_outcome 196 = .ok (.iload_n 2, 1) := by decide +kernel
theorem dX2_outcome_197 : decode cX2_outcome 197 = .ok (.iconst 0, 1) := by decide +kernel
theorem dX2_outcome_198 : decode cX2_outcome 198 = .ok (.iload_n 3, 1) := by decide +kernel
theorem dX2_outcome_199 : decode cX2_outcome 199 = .ok (.iconst 1, 1) := by decide +kernel
theorem dX2_outcome_200 : decode cX2_outcome 200 = .ok (.iadd, 1) := by decide +kernel
theorem dX2_outcome_201 : decode cX2_outcome 201 = .ok (.iload 4, 2) := by decide +kernel
theorem dX2_outcome_203 : decode cX2_outcome 203 = .ok (.invokevirtual 31, 3) := by decide +kernel
theorem dX2_outcome_206 : decode cX2_outcome 206 = .ok (.ireturn, 1) := by decide +kernel
theorem dX2_outcome_207 : decode cX2_outcome 207 = .ok (.aload_n 0, 1) := by decide +kernel
theorem dX2_outcome_208 : decode cX2_outcome 208 = .ok (.iload_n 2, 1) := by decide +kernel
theorem dX2_outcome_209 : decode cX2_outcome 209 = .ok (.iconst 2, 1) := by decide +kernel
theorem dX2_outcome_210 : decode cX2_outcome 210 = .ok (.iload_n 3, 1) := by decide +kernel
theorem dX2_outcome_211 : decode cX2_outcome 211 = .ok (.iload 4, 2) := by decide +kernel
theorem dX2_outcome_213 : decode cX2_outcome 213 = .ok (.invokevirtual 31, 3) := by decide +kernel
theorem dX2_outcome_216 : decode cX2_outcome 216 = .ok (.ineg, 1) := by decide +kernel
theorem dX2_outcome_217 : decode cX2_outcome 217 = .ok (.ireturn, 1) := by decide +kernel
theorem dX2_outcome_218 : decode cX2_outcome 218 = .ok (.aload_n 0, 1) := by decide +kernel
theorem dX2_outcome_219 : decode cX2_outcome 219 = .ok (.iload_n 2, 1) := by decide +kernel
theorem dX2_outcome_220 : decode cX2_outcome 220 = .ok (.iconst 0, 1) := by decide +kernel
theorem dX2_outcome_221 : decode cX2_outcome 221 = .ok (.iload_n 3, 1) := by decide +kernel
theorem dX2_outcome_222 : decode cX2_outcome 222 = .ok (.iload 4, 2) := by decide +kernel
theorem dX2_outcome_224 : decode cX2_outcome 224 = .ok (.invokevirtual 31, 3) := by decide +kernel
theorem dX2_outcome_227 : decode cX2_outcome 227 = .ok (.aload_n 0, 1) := by decide +kernel
theorem dX2_outcome_228 : decode cX2_outcome 228 = .ok (.getfield 19, 3) := by decide +kernel
theorem dX2_outcome_231 : decode cX2_outcome 231 = .ok (.isub, 1) := by decide +kernel
theorem dX2_outcome_232 : decode cX2_outcome 232 = .ok (.ireturn, 1) := by decide +kernel
theorem dX2_outcome_233 : decode cX2_outcome 233 = .ok (.aload_n 0, 1) := by decide +kernel
theorem dX2_outcome_234 : decode cX2_outcome 234 = .ok (.iload_n 2, 1) := by decide +kernel
theorem dX2_outcome_235 : decode cX2_outcome 235 = .ok (.iconst 2, 1) := by decide +kernel
theorem dX2_outcome_236 : decode cX2_outcome 236 = .ok (.iload_n 3, 1) := by decide +kernel
theorem dX2_outcome_237 : decode cX2_outcome 237 = .ok (.iload 4, 2) := by decide +kernel
theorem dX2_outcome_239 : decode cX2_outcome 239 = .ok (.invokevirtual 31, 3) := by decide +kernel
theorem dX2_outcome_242 : decode cX2_outcome 242 = .ok (.iconst 5, 1) := by decide +kernel
theorem dX2_outcome_243 : decode cX2_outcome 243 = .ok (.ixor, 1) := by decide +kernel
theorem dX2_outcome_244 : decode cX2_outcome 244 = .ok (.ireturn, 1) := by decide +kernel
theorem dX2_outcome_245 : decode cX2_outcome 245 = .ok (.aload_n 0, 1) := by decide +kernel
theorem dX2_outcome_246 : decode cX2_outcome 246 = .ok (.iload_n 2, 1) := by decide +kernel
theorem dX2_outcome_247 : decode cX2_outcome 247 = .ok (.iconst 0, 1) := by decide +kernel
theorem dX2_outcome_248 : decode cX2_outcome 248 = .ok (.iload_n 3, 1) := by decide +kernel
theorem dX2_outcome_249 : decode cX2_outcome 249 = .ok (.iload 4, 2) := by decide +kernel
theorem dX2_outcome_251 : decode cX2_outcome 251 = .ok (.invokevirtual 31, 3) := by decide +kernel
theorem dX2_outcome_254 : decode cX2_outcome 254 = .ok (.iconst 2, 1) := by decide +kernel
theorem dX2_outcome_255 : decode cX2_outcome 255 = .ok (.imul, 1) := by decide +kernel
theorem dX2_outcome_256 : decode cX2_outcome 256 = .ok (.ireturn, 1) := by decide +kernel
theorem dX2_outcome_257 : decode cX2_outcome 257 = .ok (.aload_n 0, 1) := by decide +kernel
theorem dX2_outcome_258 : decode cX2_outcome 258 = .ok (.iload_n 2, 1) := by decide +kernel
theorem dX2_outcome_259 : decode cX2_outcome 259 = .ok (.iconst 1, 1) := by decide +kernel
theorem dX2_outcome_260 : decode cX2_outcome 260 = .ok (.iload_n 3, 1) := by decide +kernel
theorem dX2_outcome_261 : decode cX2_outcome 261 = .ok (.aload_n 0, 1) := by decide +kernel
theorem dX2_outcome_262 : decode cX2_outcome 262 = .ok (.getfield 22, 3) := by decide +kernel
theorem dX2_outcome_265 : decode cX2_outcome 265 = .ok (.getfield 57, 3) := by decide +kernel
theorem dX2_outcome_268 : decode cX2_outcome 268 = .ok (.isub, 1) := by decide +kernel
theorem dX2_outcome_269 : decode cX2_outcome 269 = .ok (.iload 4, 2) := by decide +kernel
theorem dX2_outcome_271 : decode cX2_outcome 271 = .ok (.invokevirtual 31, 3) := by decide +kernel
theorem dX2_outcome_274 : decode cX2_outcome 274 = .ok (.ireturn, 1) := by decide +kernel
theorem dX2_outcome_275 : decode cX2_outcome 275 = .ok (.iconst 0, 1) := by decide +kernel
theorem dX2_outcome_276 : decode cX2_outcome 276 = .ok (.ireturn, 1) := by decide +kernel
theorem dX3_init_0 : decode cX3_init 0 = .ok (.aload_n 0, 1) := by decide +kernel
theorem dX3_init_1 : decode cX3_init 1 = .ok (.invokespecial 5, 3) := by decide +kernel
theorem dX3_init_4 : decode cX3_init 4 = .ok (.aload_n 0, 1) := by decide +kernel
theorem dX3_init_5 : decode cX3_init 5 = .ok (.sipush 2816, 3) := by decide +kernel
theorem dX3_init_8 : decode cX3_init 8 = .ok (.newarray .int, 2) := by decide +kernel
theorem dX3_init_10 : decode cX3_init 10 = .ok (.putfield 13, 3) := by decide +kernel
theorem dX3_init_13 : decode cX3_init 13 = .ok (.aload_n 0, 1) := by decide +kernel
theorem dX3_init_14 : decode cX3_init 14 = .ok (.sipush 256, 3) := by decide +kernel
theorem dX3_init_17 : decode cX3_init 17 = .ok (.newarray .int, 2) := by decide +kernel
theorem dX3_init_19 : decode cX3_init 19 = .ok (.putfield 17, 3) := by decide +kernel
theorem dX3_init_22 : decode cX3_init 22 = .ok (.aload_n 0, 1) := by decide +kernel
theorem dX3_init_23 : decode cX3_init 23 = .ok (.bipush 10, 2) := by decide +kernel
theorem dX3_init_25 : decode cX3_init 25 = .ok (.newarray .int, 2) := by decide +kernel
theorem dX3_init_27 : decode cX3_init 27 = .ok (.putfield 20, 3) := by decide +kernel
theorem dX3_init_30 : decode cX3_init 30 = .ok (.aload_n 0, 1) := by decide +kernel
theorem dX3_init_31 : decode cX3_init 31 = .ok (.bipush 8, 2) := by decide +kernel
theorem dX3_init_33 : decode cX3_init 33 = .ok (.newarray .int, 2) := by decide +kernel
theorem dX3_init_35 : decode cX3_init 35 = .ok (.putfield 23, 3) := by decide +kernel
theorem dX3_init_38 : decode cX3_init 38 = .ok (.aload_n 0, 1) := by decide +kernel
theorem dX3_init_39 : decode cX3_init 39 = .ok (.bipush 10, 2) := by decide +kernel
theorem dX3_init_41 : decode cX3_init 41 = .ok (.newarray .int, 2) := by decide +kernel
theorem dX3_init_43 : decode cX3_init 43 = .ok (.putfield 26, 3) := by decide +kernel
theorem dX3_init_46 : decode cX3_init 46 = .ok (.aload_n 0, 1) := by decide +kernel
theorem dX3_init_47 : decode cX3_init 47 = .ok (.bipush 10, 2) := by decide +kernel
theorem dX3_init_49 : decode cX3_init 49 = .ok (.newarray .int, 2) := by decide +kernel
theorem dX3_init_51 : decode cX3_init 51 = .ok (.putfield 29, 3) := by decide +kernel
theorem dX3_init_54 : decode cX3_init 54 = .ok (.aload_n 0, 1) := by decide +kernel
theorem dX3_init_55 : decode cX3_init 55 = .ok (.bipush 10, 2) := by decide +kernel
theorem dX3_init_57 : decode cX3_init 57 = .ok (.newarray .int, 2) := by decide +kernel
theorem dX3_init_59 : decode cX3_init 59 = .ok (.putfield 32, 3) := by decide +kernel
theorem dX3_init_62 : decode cX3_init 62 = .ok (.aload_n 0, 1) := by decide +kernel
theorem dX3_init_63 : decode cX3_init 63 = .ok (.bipush 80, 2) := by decide +kernel
theorem dX3_init_65 : decode cX3_init 65 = .ok (.newarray .int, 2) := by decide +kernel
theorem dX3_init_67 : decode cX3_init 67 = .ok (.putfield 35, 3) := by decide +kernel
theorem dX3_init_70 : decode cX3_init 70 = .ok (.aload_n 0, 1) := by decide +kernel
theorem dX3_init_71 : decode cX3_init 71 = .ok (.new 38, 3) := by decide +kernel
theorem dX3_init_74 : decode cX3_init 74 = .ok (.dup, 1) := by decide +kernel
theorem dX3_init_75 : decode cX3_init 75 = .ok (.invokespecial 40, 3) := by decide +kernel
theorem dX3_init_78 : decode cX3_init 78 = .ok (.putfield 41, 3) := by decide +kernel
theorem dX3_init_81 : decode cX3_init 81 = .ok (.aload_n 0, 1) := by decide +kernel
theorem dX3_init_82 : decode cX3_init 82 = .ok (.iconst 0, 1) := by decide +kernel
theorem dX3_init_83 : decode cX3_init 83 = .ok (.putfield 45, 3) := by decide +kernel
theorem dX3_init_86 : decode cX3_init 86 = .ok (.aload_n 0, 1) := by decide +kernel
theorem dX3_init_87 : decode cX3_init 87 = .ok (.iconst 0, 1) := by decide +kernel
theorem dX3_init_88 : decode cX3_init 88 = .ok (.putfield 49, 3) := by decide +kernel
theorem dX3_init_91 : decode cX3_init 91 = .ok (.aload_n 0, 1) := by decide +kernel
theorem dX3_init_92 : decode cX3_init 92 = .ok (.iconst 0, 1) := by decide +kernel
theorem dX3_init_93 : decode cX3_init 93 = .ok (.putfield 52, 3) := by decide +kernel
theorem dX3_init_96 : decode cX3_init 96 = .ok (.return_, 1) := by decide +kernel
theorem dX3_weigh_0 : decode cX3_weigh 0 = .ok (.aload_n 0, 1) := by decide +kernel
theorem dX3_weigh_1 : decode cX3_weigh 1 = .ok (.iconst 0, 1) := by decide +kernel
theorem dX3_weigh_2 : decode cX3_weigh 2 = .ok (.putfield 52, 3) := by decide +kernel
theorem dX3_weigh_5 : decode cX3_weigh 5 = .ok (.aload_n 0, 1) := by decide +kernel
theorem dX3_weigh_6 : decode cX3_weigh 6 = .ok (.aload_n 1, 1) := by decide +kernel
theorem dX3_weigh_7 : decode cX3_weigh 7 = .ok (.invokevirtual 56, 3) := by decide +kernel
theorem dX3_weigh_10 : decode cX3_weigh 10 = .ok (.aload_n 0, 1) := by decide +kernel
theorem dX3_weigh_11 : decode cX3_weigh 11 = .ok (.aload_n 1, 1) := by decide +kernel
theorem dX3_weigh_12 : decode cX3_weigh 12 = .ok (.invokevirtual 60, 3) := by decide +kernel
theorem dX3_weigh_15 : decode cX3_weigh 15 = .ok (.aload_n 0, 1) := by decide +kernel
theorem dX3_weigh_16 : decode cX3_weigh 16 = .ok (.getfield 52, 3) := by decide +kernel
theorem dX3_weigh_19 : decode cX3_weigh 19 = .ok (.ifCond .ne 4, 3) := by decide +kernel
theorem dX3_weigh_22 : decode cX3_weigh 22 = .ok (.return_, 1) := by decide +kernel
theorem dX3_weigh_23 : decode cX3_weigh 23 = .ok (.iconst 0, 1) := by decide +kernel
theorem dX3_weigh_24 : decode cX3_weigh 24 = .ok (.istore_n 2, 1) := by decide +kernel
theorem dX3_weigh_25 : decode cX3_weigh 25 = .ok (.iload_n 2, 1) := by decide +kernel
theorem dX3_weigh_26 : decode cX3_weigh 26 = .ok (.aload_n 0, 1) := by decide +kernel
theorem dX3_weigh_27 : decode cX3_weigh 27 = .ok (.invokevirtual 63, 3) := by decide +kernel
theorem dX3_weigh_30 : decode cX3_weigh 30 = .ok (.if_icmp .gt 25, 3) := by decide +kernel
theorem dX3_weigh_33 : decode cX3_weigh 33 = .ok (.aload_n 0, 1) := by decide +kernel
theorem dX3_weigh_34 : decode cX3_weigh 34 = .ok (.getfield 13, 3) := by decide +kernel
theorem dX3_weigh_37 : decode cX3_weigh 37 = .ok (.aload_n 0, 1) := by decide +kernel
theorem dX3_weigh_38 : decode cX3_weigh 38 = .ok (.getfield 49, 3) := by decide +kernel
theorem dX3_weigh_41 : decode cX3_weigh 41 = .ok (.sipush 256, 3) := by decide +kernel
theorem dX3_weigh_44 : decode cX3_weigh 44 = .ok (.imul, 1) := by decide +kernel
theorem dX3_weigh_45 : decode cX3_weigh 45 = .ok (.iload_n 2, 1) := by decide +kernel
theorem dX3_weigh_46 : decode cX3_weigh 46 = .ok (.iadd, 1) := by decide +kernel
theorem dX3_weigh_47 : decode cX3_weigh 47 = .ok (.iconst 0, 1) := by decide +kernel
theorem dX3_weigh_48 : decode cX3_weigh 48 = .ok (.iastore, 1) := by decide +kernel
theorem dX3_weigh_49 : decode cX3_weigh 49 = .ok (.iinc 2 1, 3) := by decide +kernel
theorem dX3_weigh_52 : decode cX3_weigh 52 = .ok (.goto (-27), 3) := by decide +kernel
theorem dX3_weigh_55 : decode cX3_weigh 55 = .ok (.aload_n 0, 1) := by decide +kernel
theorem dX3_weigh_56 : decode cX3_weigh 56 = .ok (.getfield 49, 3) := by decide +kernel
theorem dX3_weigh_59 : decode cX3_weigh 59 = .ok (.iconst 1, 1) := by decide +kernel
theorem dX3_weigh_60 : decode cX3_weigh 60 = .ok (.isub, 1) := by decide +kernel
theorem dX3_weigh_61 : decode cX3_weigh 61 = .ok (.istore_n 2, 1) := by decide +kernel
theorem dX3_weigh_62 : decode cX3_weigh 62 = .ok (.iload_n 2, 1) := by decide +kernel
theorem dX3_weigh_63 : decode cX3_weigh 63 = .ok (.ifCond .lt 54, 3) := by decide +kernel
theorem dX3_weigh_66 : decode cX3_weigh 66 = .ok (.iconst 0, 1) := by decide +kernel
theorem dX3_weigh_67 : decode cX3_weigh 67 = .ok (.istore_n 3, 1) := by decide +kernel
theorem dX3_weigh_68 : decode cX3_weigh 68 = .ok (.iload_n 3, 1) := by decide +kernel
theorem dX3_weigh_69 : decode cX3_weigh 69 = .ok (.aload_n 0, 1) := by decide +kernel
theorem dX3_weigh_70 : decode cX3_weigh 70 = .ok (.invokevirtual 63, 3) := by decide +kernel
theorem dX3_weigh_73 : decode cX3_weigh 73 = .ok (.if_icmp .gt 38, 3) := by decide +kernel
theorem dX3_weigh_76 : decode cX3_weigh 76 = .ok (.aload_n 0, 1) := by decide +kernel
theorem dX3_weigh_77 : decode cX3_weigh 77 = .ok (.getfield 13, 3) := by decide +kernel
theorem dX3_weigh_80 : decode cX3_weigh 80 = .ok (.iload_n 2, 1) := by decide +kernel
theorem dX3_weigh_81 : decode cX3_weigh 81 = .ok (.sipush 256, 3) := by decide +kernel
theorem dX3_weigh_84 : decode cX3_weigh 84 = .ok (.imul, 1) := by decide +kernel
theorem dX3_weigh_85 : decode cX3_weigh 85 = .ok (.iload_n 3, 1) := by decide +kernel
theorem dX3_weigh_86 : decode cX3_weigh 86 = .ok (.iadd, 1) := by decide +kernel
theorem dX3_weigh_87 : decode cX3_weigh 87 = .ok (.aload_n 0, 1) := by decide +kernel
theorem dX3_weigh_88 : decode cX3_weigh 88 = .ok (.aload_n 0, 1) := by decide +kernel
theorem dX3_weigh_89 : decode cX3_weigh 89 = .ok (.getfield 13, 3) := by decide +kernel
theorem dX3_weigh_92 : decode cX3_weigh 92 = .ok (.iload_n 2, 1) := by decide +kernel
theorem dX3_weigh_93 : decode cX3_weigh 93 = .ok (.iconst 1, 1) := by decide +kernel
theorem dX3_weigh_94 : decode cX3_weigh 94 = .ok (.iadd, 1) := by decide +kernel
theorem dX3_weigh_95 : decode cX3_weigh 95 = .ok (.sipush 256, 3) := by decide +kernel
theorem dX3_weigh_98 : decode cX3_weigh 98 = .ok (.imul, 1) := by decide +kernel
theorem dX3_weigh_99 : decode cX3_weigh 99 = .ok (.iload_n 3, 1) := by decide +kernel
theorem dX3_weigh_100 : decode cX3_weigh 100 = .ok (.iload_n 2, 1) := by decide +kernel
theorem dX3_weigh_101 : decode cX3_weigh 101 = .ok (.invokevirtual 67, 3) := by decide +kernel
theorem dX3_weigh_104 : decode cX3_weigh 104 = .ok (.iastore, 1) := by decide +kernel
theorem dX3_weigh_105 : decode cX3_weigh 105 = .ok (.iinc 3 1, 3) := by decide +kernel
theorem dX3_weigh_108 : decode cX3_weigh 108 = .ok (.goto (-40), 3) := by decide +kernel
theorem dX3_weigh_111 : decode cX3_weigh 111 = .ok (.iinc 2 (-1), 3) := by decide +kernel
theorem dX3_weigh_114 : decode cX3_weigh 114 = .ok (.goto (-52), 3) := by decide +kernel
theorem dX3_weigh_117 : decode cX3_weigh 117 = .ok (.return_, 1) := by decide +kernel
theorem dX3_all_0 : decode cX3_all 0 = .ok (.iconst 1, 1) := by decide +kernel
theorem dX3_all_1 : decode cX3_all 1 = .ok (.aload_n 0, 1) := by decide +kernel
theorem dX3_all_2 : decode cX3_all 2 = .ok (.getfield 45, 3) := by decide +kernel
theorem dX3_all_5 : decode cX3_all 5 = .ok (.ishl, 1) := by decide +kernel
theorem dX3_all_6 : decode cX3_all 6 = .ok (.iconst 1, 1) := by decide +kernel
theorem dX3_all_7 : decode cX3_all 7 = .ok (.isub, 1) := by decide +kernel
theorem dX3_all_8 : decode cX3_all 8 = .ok (.ireturn, 1) := by decide +kernel
theorem dX3_findPlaces_0 : decode cX3_findPlaces 0 = .ok (.iconst 0, 1) := by decide +kernel
theorem dX3_findPlaces_1 : decode cX3_findPlaces 1 = .ok (.istore_n 2, 1) := by decide +kernel
theorem dX3_findPlaces_2 : decode cX3_findPlaces 2 = .ok (.iconst 0, 1) := by decide +kernel
theorem dX3_findPlaces_3 : decode cX3_findPlaces 3 = .ok (.istore_n 3, 1) := by decide +kernel
theorem dX3_findPlaces_4 : decode cX3_findPlaces 4 = .ok (.iload_n 3, 1) := by decide +kernel
theorem dX3_findPlaces_5 : decode cX3_findPlaces 5 = .ok (.aload_n 1, 1) := by decide +kernel
theorem dX3_findPlaces_6 : decode cX3_findPlaces 6 = .ok (.getfield 71, 3) := by decide +kernel
theorem dX3_findPlaces_9 : decode cX3_findPlaces 9 = .ok (.if_icmp .ge 34, 3) := by decide +kernel
theorem dX3_findPlaces_12 : decode cX3_findPlaces 12 = .ok (.aload_n 1, 1) := by decide +kernel
theorem dX3_findPlaces_13 : decode cX3_findPlaces 13 = .ok (.getfield 74, 3) := by decide +kernel
theorem dX3_findPlaces_16 : decode cX3_findPlaces 16 = .ok (.iload_n 3, 1) := by decide +kernel
theorem dX3_findPlaces_17 : decode cX3_findPlaces 17 = .ok (.aaload, 1) := by decide +kernel
theorem dX3_findPlaces_18 : decode cX3_findPlaces 18 = .ok (.invokevirtual 78, 3) := by decide +kernel
theorem dX3_findPlaces_21 : decode cX3_findPlaces 21 = .ok (.ifCond .eq 16, 3) := by decide +kernel
theorem dX3_findPlaces_24 : decode cX3_findPlaces 24 = .ok (.aload_n 0, 1) := by decide +kernel
theorem dX3_findPlaces_25 : decode cX3_findPlaces 25 = .ok (.aload_n 0, 1) := by decide +kernel
theorem dX3_findPlaces_26 : decode cX3_findPlaces 26 = .ok (.getfield 23, 3) := by decide +kernel
theorem dX3_findPlaces_29 : decode cX3_findPlaces 29 = .ok (.iload_n 2, 1) := by decide +kernel
theorem dX3_findPlaces_30 : decode cX3_findPlaces 30 = .ok (.iload_n 3, 1) := by decide +kernel
theorem dX3_findPlaces_31 : decode cX3_findPlaces 31 = .ok (.invokevirtual 82, 3) := by decide +kernel
theorem dX3_findPlaces_34 : decode cX3_findPlaces 34 = .ok (.iinc 2 1, 3) := by decide +kernel
theorem dX3_findPlaces_37 : decode cX3_findPlaces 37 = .ok (.iinc 3 1, 3) := by decide +kernel
theorem dX3_findPlaces_40 : decode cX3_findPlaces 40 = .ok (.goto (-36), 3) := by decide +kernel
theorem dX3_findPlaces_43 : decode cX3_findPlaces 43 = .ok (.aload_n 0, 1) := by decide +kernel
theorem dX3_findPlaces_44 : decode cX3_findPlaces 44 = .ok (.dup, 1) := by decide +kernel
theorem dX3_findPlaces_45 : decode cX3_findPlaces 45 = .ok (.getfield 52, 3) := by decide +kernel
theorem dX3_findPlaces_48 : decode cX3_findPlaces 48 = .ok (.iload_n 2, 1) := by decide +kernel
theorem dX3_findPlaces_49 : decode cX3_findPlaces 49 = .ok (.aload_n 0, 1) := by decide +kernel
theorem dX3_findPlaces_50 : decode cX3_findPlaces 50 = .ok (.getfield 45, 3) := by decide +kernel
theorem dX3_findPlaces_53 : decode cX3_findPlaces 53 = .ok (.if_icmp .eq 7, 3) := by decide +kernel
theorem dX3_findPlaces_56 : decode cX3_findPlaces 56 = .ok (.iconst 1, 1) := by decide +kernel
theorem dX3_findPlaces_57 : decode cX3_findPlaces 57 = .ok (.goto 4, 3) := by decide +kernel
theorem dX3_findPlaces_60 : decode cX3_findPlaces 60 = .ok (.iconst 0, 1) := by decide +kernel
theorem dX3_findPlaces_61 : decode cX3_findPlaces 61 = .ok (.ior, 1) := by decide +kernel
theorem dX3_findPlaces_62 : decode cX3_findPlaces 62 = .ok (.putfield 52, 3) := by decide +kernel
theorem dX3_findPlaces_65 : decode cX3_findPlaces 65 = .ok (.aload_n 0, 1) := by decide +kernel
theorem dX3_findPlaces_66 : decode cX3_findPlaces 66 = .ok (.iload_n 2, 1) := by decide +kernel
theorem dX3_findPlaces_67 : decode cX3_findPlaces 67 = .ok (.putfield 45, 3) := by decide +kernel
theorem dX3_findPlaces_70 : decode cX3_findPlaces 70 = .ok (.return_, 1) := by decide +kernel
theorem dX3_findSlots_0 : decode cX3_findSlots 0 = .ok (.iconst 0, 1) := by decide +kernel
theorem dX3_findSlots_1 : decode cX3_findSlots 1 = .ok (.istore_n 2, 1) := by decide +kernel
theorem dX3_findSlots_2 : decode cX3_findSlots 2 = .ok (.iconst 0, 1) := by decide +kernel
theorem dX3_findSlots_3 : decode cX3_findSlots 3 = .ok (.istore_n 3, 1) := by decide +kernel
theorem dX3_findSlots_4 : decode cX3_findSlots 4 = .ok (.iload_n 3, 1) := by decide +kernel
theorem dX3_findSlots_5 : decode cX3_findSlots 5 = .ok (.aload_n 1, 1) := by decide +kernel
theorem dX3_findSlots_6 : decode cX3_findSlots 6 = .ok (.getfield 86, 3) := by decide +kernel
theorem dX3_findSlots_9 : decode cX3_findSlots 9 = .ok (.if_icmp .ge 47, 3) := by decide +kernel
theorem dX3_findSlots_12 : decode cX3_findSlots 12 = .ok (.iconst 0, 1) := by decide +kernel
theorem dX3_findSlots_13 : decode cX3_findSlots 13 = .ok (.istore 4, 2) := by decide +kernel
theorem dX3_findSlots_15 : decode cX3_findSlots 15 = .ok (.iload 4, 2) := by decide +kernel
theorem dX3_findSlots_17 : decode cX3_findSlots 17 = .ok (.iconst 1, 1) := by decide +kernel
theorem dX3_findSlots_18 : decode cX3_findSlots 18 = .ok (.if_icmp .gt 32, 3) := by decide +kernel
theorem dX3_findSlots_21 : decode cX3_findSlots 21 = .ok (.aload_n 1, 1) := by decide +kernel
theorem dX3_findSlots_22 : decode cX3_findSlots 22 = .ok (.iload_n 3, 1) := by decide +kernel
theorem dX3_findSlots_23 : decode cX3_findSlots 23 = .ok (.iload 4, 2) := by decide +kernel
theorem dX3_findSlots_25 : decode cX3_findSlots 25 = .ok (.invokevirtual 89, 3) := by decide +kernel
theorem dX3_findSlots_28 : decode cX3_findSlots 28 = .ok (.iconst (-1), 1) := by decide +kernel
theorem dX3_findSlots_29 : decode cX3_findSlots 29 = .ok (.if_icmp .ne 15, 3) := by decide +kernel
theorem dX3_findSlots_32 : decode cX3_findSlots 32 = .ok (.aload_n 0, 1) := by decide +kernel
theorem dX3_findSlots_33 : decode cX3_findSlots 33 = .ok (.aload_n 1, 1) := by decide +kernel
theorem dX3_findSlots_34 : decode cX3_findSlots 34 = .ok (.iload_n 2, 1) := by decide +kernel
theorem dX3_findSlots_35 : decode cX3_findSlots 35 = .ok (.iload_n 3, 1) := by decide +kernel
theorem dX3_findSlots_36 : decode cX3_findSlots 36 = .ok (.iload 4, 2) := by decide +kernel
theorem dX3_findSlots_38 : decode cX3_findSlots 38 = .ok (.invokevirtual 93, 3) := by decide +kernel
theorem dX3_findSlots_41 : decode cX3_findSlots 41 = .ok (.iinc 2 1, 3) := by decide +kernel
theorem dX3_findSlots_44 : decode cX3_findSlots 44 = .ok (.iinc 4 1, 3) := by decide +kernel
theorem dX3_findSlots_47 : decode cX3_findSlots 47 = .ok (.goto (-32), 3) := by decide +kernel
theorem dX3_findSlots_50 : decode cX3_findSlots 50 = .ok (.iinc 3 1, 3) := by decide +kernel
theorem dX3_findSlots_53 : decode cX3_findSlots 53 = .ok (.goto (-49), 3) := by decide +kernel
theorem dX3_findSlots_56 : decode cX3_findSlots 56 = .ok (.aload_n 0, 1) := by decide +kernel
theorem dX3_findSlots_57 : decode cX3_findSlots 57 = .ok (.dup, 1) := by decide +kernel
theorem dX3_findSlots_58 : decode cX3_findSlots 58 = .ok (.getfield 52, 3) := by decide +kernel
theorem dX3_findSlots_61 : decode cX3_findSlots 61 = .ok (.iload_n 2, 1) := by decide +kernel
theorem dX3_findSlots_62 : decode cX3_findSlots 62 = .ok (.aload_n 0, 1) := by decide +kernel
theorem dX3_findSlots_63 : decode cX3_findSlots 63 = .ok (.getfield 49, 3) := by decide +kernel
theorem dX3_findSlots_66 : decode cX3_findSlots 66 = .ok (.if_icmp .eq 7, 3) := by decide +kernel
theorem dX3_findSlots_69 : decode cX3_findSlots 69 = .ok (.iconst 1, 1) := by decide +kernel
theorem dX3_findSlots_70 : decode cX3_findSlots 70 = .ok (.goto 4, 3) := by decide +kernel
theorem dX3_findSlots_73 : decode cX3_findSlots 73 = .ok (.iconst 0, 1) := by decide +kernel
theorem dX3_findSlots_74 : decode cX3_findSlots 74 = .ok (.ior, 1) := by decide +kernel
theorem dX3_findSlots_75 : decode cX3_findSlots 75 = .ok (.putfield 52, 3) := by decide +kernel
theorem dX3_findSlots_78 : decode cX3_findSlots 78 = .ok (.aload_n 0, 1) := by decide +kernel
theorem dX3_findSlots_79 : decode cX3_findSlots 79 = .ok (.iload_n 2, 1) := by decide +kernel
theorem dX3_findSlots_80 : decode cX3_findSlots 80 = .ok (.putfield 49, 3) := by decide +kernel
theorem dX3_findSlots_83 : decode cX3_findSlots 83 = .ok (.return_, 1) := by decide +kernel
theorem dX3_keepSlot_0 : decode cX3_keepSlot 0 = .ok (.aload_n 0, 1) := by decide +kernel
theorem dX3_keepSlot_1 : decode cX3_keepSlot 1 = .ok (.aload_n 0, 1) := by decide +kernel
theorem dX3_keepSlot_2 : decode cX3_keepSlot 2 = .ok (.getfield 26, 3) := by decide +kernel
theorem dX3_keepSlot_5 : decode cX3_keepSlot 5 = .ok (.iload_n 2, 1) := by decide +kernel
theorem dX3_keepSlot_6 : decode cX3_keepSlot 6 = .ok (.iload_n 3, 1) := by decide +kernel
theorem dX3_keepSlot_7 : decode cX3_keepSlot 7 = .ok (.invokevirtual 82, 3) := by decide +kernel
theorem dX3_keepSlot_10 : decode cX3_keepSlot 10 = .ok (.aload_n 0, 1) := by decide +kernel
theorem dX3_keepSlot_11 : decode cX3_keepSlot 11 = .ok (.aload_n 0, 1) := by decide +kernel
theorem dX3_keepSlot_12 : decode cX3_keepSlot 12 = .ok (.getfield 29, 3) := by decide +kernel
theorem dX3_keepSlot_15 : decode cX3_keepSlot 15 = .ok (.iload_n 2, 1) := by decide +kernel
theorem dX3_keepSlot_16 : decode cX3_keepSlot 16 = .ok (.iload 4, 2) := by decide +kernel
theorem dX3_keepSlot_18 : decode cX3_keepSlot 18 = .ok (.invokevirtual 82, 3) := by decide +kernel
theorem dX3_keepSlot_21 : decode cX3_keepSlot 21 = .ok (.iconst 0, 1) := by decide +kernel
theorem dX3_keepSlot_22 : decode cX3_keepSlot 22 = .ok (.istore 5, 2) := by decide +kernel
theorem dX3_keepSlot_24 : decode cX3_keepSlot 24 = .ok (.iconst 0, 1) := by decide +kernel
theorem dX3_keepSlot_25 : decode cX3_keepSlot 25 = .ok (.istore 6, 2) := by decide +kernel
theorem dX3_keepSlot_27 : decode cX3_keepSlot 27 = .ok (.iload 6, 2) := by decide +kernel
theorem dX3_keepSlot_29 : decode cX3_keepSlot 29 = .ok (.aload_n 0, 1) := by decide +kernel
theorem dX3_keepSlot_30 : decode cX3_keepSlot 30 = .ok (.getfield 45, 3) := by decide +kernel
theorem dX3_keepSlot_33 : decode cX3_keepSlot 33 = .ok (.if_icmp .ge 78, 3) := by decide +kernel
theorem dX3_keepSlot_36 : decode cX3_keepSlot 36 = .ok (.aload_n 1, 1) := by decide +kernel
theorem dX3_keepSlot_37 : decode cX3_keepSlot 37 = .ok (.getfield 74, 3) := by decide +kernel
theorem dX3_keepSlot_40 : decode cX3_keepSlot 40 = .ok (.aload_n 0, 1) := by decide +kernel
theorem dX3_keepSlot_41 : decode cX3_keepSlot 41 = .ok (.getfield 23, 3) := by decide +kernel
theorem dX3_keepSlot_44 : decode cX3_keepSlot 44 = .ok (.iload 6, 2) := by decide +kernel
theorem dX3_keepSlot_46 : decode cX3_keepSlot 46 = .ok (.iaload, 1) := by decide +kernel
theorem dX3_keepSlot_47 : decode cX3_keepSlot 47 = .ok (.aaload, 1) := by decide +kernel
theorem dX3_keepSlot_48 : decode cX3_keepSlot 48 = .ok (.astore 7, 2) := by decide +kernel
theorem dX3_keepSlot_50 : decode cX3_keepSlot 50 = .ok (.aload 7, 2) := by decide +kernel
theorem dX3_keepSlot_52 : decode cX3_keepSlot 52 = .ok (.aload_n 1, 1) := by decide +kernel
theorem dX3_keepSlot_53 : decode cX3_keepSlot 53 = .ok (.getfield 97, 3) := by decide +kernel
theorem dX3_keepSlot_56 : decode cX3_keepSlot 56 = .ok (.iload_n 3, 1) := by decide +kernel
theorem dX3_keepSlot_57 : decode cX3_keepSlot 57 = .ok (.aaload, 1) := by decide +kernel
theorem dX3_keepSlot_58 : decode cX3_keepSlot 58 = .ok (.iload 4, 2) := by decide +kernel
theorem dX3_keepSlot_60 : decode cX3_keepSlot 60 = .ok (.invokevirtual 101, 3) := by decide +kernel
theorem dX3_keepSlot_63 : decode cX3_keepSlot 63 = .ok (.ifCond .eq 12, 3) := by decide +kernel
theorem dX3_keepSlot_66 : decode cX3_keepSlot 66 = .ok (.iload 5, 2) := by decide +kernel
theorem dX3_keepSlot_68 : decode cX3_keepSlot 68 = .ok (.iconst 1, 1) := by decide +kernel
theorem dX3_keepSlot_69 : decode cX3_keepSlot 69 = .ok (.iload 6, 2) := by decide +kernel
theorem dX3_keepSlot_71 : decode cX3_keepSlot 71 = .ok (.ishl, 1) := by decide +kernel
theorem dX3_keepSlot_72 : decode cX3_keepSlot 72 = .ok (.ior, 1) := by decide +kernel
theorem dX3_keepSlot_73 : decode cX3_keepSlot 73 = .ok (.istore 5, 2) := by decide +kernel
theorem dX3_keepSlot_75 : decode cX3_keepSlot 75 = .ok (.aload_n 0, 1) := by decide +kernel
theorem dX3_keepSlot_76 : decode cX3_keepSlot 76 = .ok (.aload_n 0, 1) := by decide +kernel
theorem dX3_keepSlot_77 : decode cX3_keepSlot 77 = .ok (.getfield 35, 3) := by decide +kernel
theorem dX3_keepSlot_80 : decode cX3_keepSlot 80 = .ok (.iload_n 2, 1) := by decide +kernel
theorem dX3_keepSlot_81 : decode cX3_keepSlot 81 = .ok (.bipush 8, 2) := by decide +kernel
theorem dX3_keepSlot_83 : decode cX3_keepSlot 83 = .ok (.imul, 1) := by decide +kernel
theorem dX3_keepSlot_84 : decode cX3_keepSlot 84 = .ok (.iload 6, 2) := by decide +kernel
theorem dX3_keepSlot_86 : decode cX3_keepSlot 86 = .ok (.iadd, 1) := by decide +kernel
theorem dX3_keepSlot_87 : decode cX3_keepSlot 87 = .ok (.sipush 1000, 3) := by decide +kernel
theorem dX3_keepSlot_90 : decode cX3_keepSlot 90 = .ok (.aload 7, 2) := by decide +kernel
theorem dX3_keepSlot_92 : decode cX3_keepSlot 92 = .ok (.aload_n 1, 1) := by decide +kernel
theorem dX3_keepSlot_93 : decode cX3_keepSlot 93 = .ok (.getfield 97, 3) := by decide +kernel
theorem dX3_keepSlot_96 : decode cX3_keepSlot 96 = .ok (.iload_n 3, 1) := by decide +kernel
theorem dX3_keepSlot_97 : decode cX3_keepSlot 97 = .ok (.aaload, 1) := by decide +kernel
theorem dX3_keepSlot_98 : decode cX3_keepSlot 98 = .ok (.invokevirtual 105, 3) := by decide +kernel
theorem dX3_keepSlot_101 : decode cX3_keepSlot 101 = .ok (.isub, 1) := by decide +kernel
theorem dX3_keepSlot_102 : decode cX3_keepSlot 102 = .ok (.invokevirtual 82, 3) := by decide +kernel
theorem dX3_keepSlot_105 : decode cX3_keepSlot 105 = .ok (.iinc 6 1, 3) := by decide +kernel
theorem dX3_keepSlot_108 : decode cX3_keepSlot 108 = .ok (.goto (-81), 3) := by decide +kernel
theorem dX3_keepSlot_111 : decode cX3_keepSlot 111 = .ok (.aload_n 0, 1) := by decide +kernel
theorem dX3_keepSlot_112 : decode cX3_keepSlot 112 = .ok (.aload_n 0, 1) := by decide +kernel
theorem dX3_keepSlot_113 : decode cX3_keepSlot 113 = .ok (.getfield 32, 3) := by decide +kernel
theorem dX3_keepSlot_116 : decode cX3_keepSlot 116 = .ok (.iload_n 2, 1) := by decide +kernel
theorem dX3_keepSlot_117 : decode cX3_keepSlot 117 = .ok (.iload 5, 2) := by decide +kernel
theorem dX3_keepSlot_119 : decode cX3_keepSlot 119 = .ok (.invokevirtual 82, 3) := by decide +kernel
theorem dX3_keepSlot_122 : decode cX3_keepSlot 122 = .ok (.return_, 1) := by decide +kernel
theorem dX3_keep_0 : decode cX3_keep 0 = .ok (.aload_n 0, 1) := by decide +kernel
theorem dX3_keep_1 : decode cX3_keep 1 = .ok (.dup, 1) := by decide +kernel
theorem dX3_keep_2 : decode cX3_keep 2 = .ok (.getfield 52, 3) := by decide +kernel
theorem dX3_keep_5 : decode cX3_keep 5 = .ok (.aload_n 1, 1) := by decide +kernel
theorem dX3_keep_6 : decode cX3_keep 6 = .ok (.iload_n 2, 1) := by decide +kernel
theorem dX3_keep_7 : decode cX3_keep 7 = .ok (.iaload, 1) := by decide +kernel
theorem dX3_keep_8 : decode cX3_keep 8 = .ok (.iload_n 3, 1) := by decide +kernel
theorem dX3_keep_9 : decode cX3_keep 9 = .ok (.if_icmp .eq 7, 3) := by decide +kernel
theorem dX3_keep_12 : decode cX3_keep 12 = .ok (.iconst 1, 1) := by decide +kernel
theorem dX3_keep_13 : decode cX3_keep 13 = .ok (.goto 4, 3) := by decide +kernel
theorem dX3_keep_16 : decode cX3_keep 16 = .ok (.iconst 0, 1) := by decide +kernel
theorem dX3_keep_17 : decode cX3_keep 17 = .ok (.ior, 1) := by decide +kernel
theorem dX3_keep_18 : decode cX3_keep 18 = .ok (.putfield 52, 3) := by decide +kernel
theorem dX3_keep_21 : decode cX3_keep 21 = .ok (.aload_n 1, 1) := by decide +kernel
theorem dX3_keep_22 : decode cX3_keep 22 = .ok (.iload_n 2, 1) := by decide +kernel
theorem dX3_keep_23 : decode cX3_keep 23 = .ok (.iload_n 3, 1) := by decide +kernel
theorem dX3_keep_24 : decode cX3_keep 24 = .ok (.iastore, 1) := by decide +kernel
theorem dX3_keep_25 : decode cX3_keep 25 = .ok (.return_, 1) := by decide +kernel
theorem dX3_bestWith_0 : decode cX3_bestWith 0 = .ok (.aload_n 1, 1) := by decide +kernel
theorem dX3_bestWith_1 : decode cX3_bestWith 1 = .ok (.iload_n 2, 1) := by decide +kernel
theorem dX3_bestWith_2 : decode cX3_bestWith 2 = .ok (.iload_n 3, 1) := by decide +kernel
theorem dX3_bestWith_3 : decode cX3_bestWith 3 = .ok (.iadd, 1) := by decide +kernel
theorem dX3_bestWith_4 : decode cX3_bestWith 4 = .ok (.iaload, 1) := by decide +kernel
theorem dX3_bestWith_5 : decode cX3_bestWith 5 = .ok (.istore 5, 2) := by decide +kernel
theorem dX3_bestWith_7 : decode cX3_bestWith 7 = .ok (.iload_n 3, 1) := by decide +kernel
theorem dX3_bestWith_8 : decode cX3_bestWith 8 = .ok (.aload_n 0, 1) := by decide +kernel
theorem dX3_bestWith_9 : decode cX3_bestWith 9 = .ok (.getfield 32, 3) := by decide +kernel
theorem dX3_bestWith_12 : decode cX3_bestWith 12 = .ok (.iload 4, 2) := by decide +kernel
theorem dX3_bestWith_14 : decode cX3_bestWith 14 = .ok (.iaload, 1) := by decide +kernel
theorem dX3_bestWith_15 : decode cX3_bestWith 15 = .ok (.iand, 1) := by decide +kernel
theorem dX3_bestWith_16 : decode cX3_bestWith 16 = .ok (.istore 6, 2) := by decide +kernel
theorem dX3_bestWith_18 : decode cX3_bestWith 18 = .ok (.iconst 0, 1) := by decide +kernel
theorem dX3_bestWith_19 : decode cX3_bestWith 19 = .ok (.istore 7, 2) := by decide +kernel
theorem dX3_bestWith_21 : decode cX3_bestWith 21 = .ok (.iload 7, 2) := by decide +kernel
theorem dX3_bestWith_23 : decode cX3_bestWith 23 = .ok (.aload_n 0, 1) := by decide +kernel
theorem dX3_bestWith_24 : decode cX3_bestWith 24 = .ok (.getfield 45, 3) := by decide +kernel
theorem dX3_bestWith_27 : decode cX3_bestWith 27 = .ok (.if_icmp .ge 50, 3) := by decide +kernel
theorem dX3_bestWith_30 : decode cX3_bestWith 30 = .ok (.iload 6, 2) := by decide +kernel
theorem dX3_bestWith_32 : decode cX3_bestWith 32 = .ok (.iload 7, 2) := by decide +kernel
theorem dX3_bestWith_34 : decode cX3_bestWith 34 = .ok (.ishr, 1) := by decide +kernel
theorem dX3_bestWith_35 : decode cX3_bestWith 35 = .ok (.iconst 1, 1) := by decide +kernel
theorem dX3_bestWith_36 : decode cX3_bestWith 36 = .ok (.iand, 1) := by decide +kernel
theorem dX3_bestWith_37 : decode cX3_bestWith 37 = .ok (.ifCond .eq 34, 3) := by decide +kernel
theorem dX3_bestWith_40 : decode cX3_bestWith 40 = .ok (.iload 5, 2) := by decide +kernel
theorem dX3_bestWith_42 : decode cX3_bestWith 42 = .ok (.aload_n 0, 1) := by decide +kernel
theorem dX3_bestWith_43 : decode cX3_bestWith 43 = .ok (.getfield 35, 3) := by decide +kernel
theorem dX3_bestWith_46 : decode cX3_bestWith 46 = .ok (.iload 4, 2) := by decide +kernel
theorem dX3_bestWith_48 : decode cX3_bestWith 48 = .ok (.bipush 8, 2) := by decide +kernel
theorem dX3_bestWith_50 : decode cX3_bestWith 50 = .ok (.imul, 1) := by decide +kernel
theorem dX3_bestWith_51 : decode cX3_bestWith 51 = .ok (.iload 7, 2) := by decide +kernel
theorem dX3_bestWith_53 : decode cX3_bestWith 53 = .ok (.iadd, 1) := by decide +kernel
theorem dX3_bestWith_54 : decode cX3_bestWith 54 = .ok (.iaload, 1) := by decide +kernel
theorem dX3_bestWith_55 : decode cX3_bestWith 55 = .ok (.aload_n 1, 1) := by decide +kernel
theorem dX3_bestWith_56 : decode cX3_bestWith 56 = .ok (.iload_n 2, 1) := by decide +kernel
theorem dX3_bestWith_57 : decode cX3_bestWith 57 = .ok (.iload_n 3, 1) := by decide +kernel
theorem dX3_bestWith_58 : decode cX3_bestWith 58 = .ok (.iconst 1, 1) := by decide +kernel
theorem dX3_bestWith_59 : decode cX3_bestWith 59 = .ok (.iload 7, 2) := by decide +kernel
theorem dX3_bestWith_61 : decode cX3_bestWith 61 = .ok (.ishl, 1) := by decide +kernel
theorem dX3_bestWith_62 : decode cX3_bestWith 62 = .ok (.ixor, 1) := by decide +kernel
theorem dX3_bestWith_63 : decode cX3_bestWith 63 = .ok (.iadd, 1) := by decide +kernel
theorem dX3_bestWith_64 : decode cX3_bestWith 64 = .ok (.iaload, 1) := by decide +kernel
theorem dX3_bestWith_65 : decode cX3_bestWith 65 = .ok (.iadd, 1) := by decide +kernel
theorem dX3_bestWith_66 : decode cX3_bestWith 66 = .ok (.invokestatic 109, 3) := by decide +kernel
theorem dX3_bestWith_69 : decode cX3_bestWith 69 = .ok (.istore 5, 2) := by decide +kernel
theorem dX3_bestWith_71 : decode cX3_bestWith 71 = .ok (.iinc 7 1, 3) := by decide +kernel
theorem dX3_bestWith_74 : decode cX3_bestWith 74 = .ok (.goto (-53), 3) := by decide +kernel
theorem dX3_bestWith_77 : decode cX3_bestWith 77 = .ok (.iload 5, 2) := by decide +kernel
theorem dX3_bestWith_79 : decode cX3_bestWith 79 = .ok (.ireturn, 1) := by decide +kernel
theorem dX3_filled_0 : decode cX3_filled 0 = .ok (.aload_n 0, 1) := by decide +kernel
theorem dX3_filled_1 : decode cX3_filled 1 = .ok (.getfield 13, 3) := by decide +kernel
theorem dX3_filled_4 : decode cX3_filled 4 = .ok (.aload_n 0, 1) := by decide +kernel
theorem dX3_filled_5 : decode cX3_filled 5 = .ok (.invokevirtual 63, 3) := by decide +kernel
theorem dX3_filled_8 : decode cX3_filled 8 = .ok (.iaload, 1) := by decide +kernel
theorem dX3_filled_9 : decode cX3_filled 9 = .ok (.invokestatic 114, 3) := by decide +kernel
theorem dX3_filled_12 : decode cX3_filled 12 = .ok (.ireturn, 1) := by decide +kernel
theorem dX3_unlikeness_0 : decode cX3_unlikeness 0 = .ok (.sipush 1000, 3) := by decide +kernel
theorem dX3_unlikeness_3 : decode cX3_unlikeness 3 = .ok (.aload_n 0, 1) := by decide +kernel
theorem dX3_unlikeness_4 : decode cX3_unlikeness 4 = .ok (.invokevirtual 118, 3) := by decide +kernel
theorem dX3_unlikeness_7 : decode cX3_unlikeness 7 = .ok (.imul, 1) := by decide +kernel
theorem dX3_unlikeness_8 : decode cX3_unlikeness 8 = .ok (.aload_n 0, 1) := by decide +kernel
theorem dX3_unlikeness_9 : decode cX3_unlikeness 9 = .ok (.getfield 13, 3) := by decide +kernel
theorem dX3_unlikeness_12 : decode cX3_unlikeness 12 = .ok (.aload_n 0, 1) := by decide +kernel
theorem dX3_unlikeness_13 : decode cX3_unlikeness 13 = .ok (.invokevirtual 63, 3) := by decide +kernel
theorem dX3_unlikeness_16 : decode cX3_unlikeness 16 = .ok (.iaload, 1) := by decide +kernel
theorem dX3_unlikeness_17 : decode cX3_unlikeness 17 = .ok (.isub, 1) := by decide +kernel
theorem dX3_unlikeness_18 : decode cX3_unlikeness 18 = .ok (.ireturn, 1) := by decide +kernel
theorem dX3_filledBy_0 : decode cX3_filledBy 0 = .ok (.iload_n 0, 1) := by decide +kernel
theorem dX3_filledBy_1 : decode cX3_filledBy 1 = .ok (.sipush 1000, 3) := by decide +kernel
theorem dX3_filledBy_4 : decode cX3_filledBy 4 = .ok (.iadd, 1) := by decide +kernel
theorem dX3_filledBy_5 : decode cX3_filledBy 5 = .ok (.iconst 1, 1) := by decide +kernel
theorem dX3_filledBy_6 : decode cX3_filledBy 6 = .ok (.isub, 1) := by decide +kernel
theorem dX3_filledBy_7 : decode cX3_filledBy 7 = .ok (.sipush 1000, 3) := by decide +kernel
theorem dX3_filledBy_10 : decode cX3_filledBy 10 = .ok (.idiv, 1) := by decide +kernel
theorem dX3_filledBy_11 : decode cX3_filledBy 11 = .ok (.ireturn, 1) := by decide +kernel
theorem dX3_armForSide_0 : decode cX3_armForSide 0 = .ok (.aload_n 0, 1) := by decide +kernel
theorem dX3_armForSide_1 : decode cX3_armForSide 1 = .ok (.invokevirtual 63, 3) := by decide +kernel
theorem dX3_armForSide_4 : decode cX3_armForSide 4 = .ok (.istore_n 3, 1) := by decide +kernel
theorem dX3_armForSide_5 : decode cX3_armForSide 5 = .ok (.iconst 0, 1) := by decide +kernel
theorem dX3_armForSide_6 : decode cX3_armForSide 6 = .ok (.istore 4, 2) := by decide +kernel
theorem dX3_armForSide_8 : decode cX3_armForSide 8 = .ok (.iload 4, 2) := by decide +kernel
theorem dX3_armForSide_10 : decode cX3_armForSide 10 = .ok (.aload_n 0, 1) := by decide +kernel
theorem dX3_armForSide_11 : decode cX3_armForSide 11 = .ok (.getfield 49, 3) := by decide +kernel
theorem dX3_armForSide_14 : decode cX3_armForSide 14 = .ok (.if_icmp .ge 71, 3) := by decide +kernel
theorem dX3_armForSide_17 : decode cX3_armForSide 17 = .ok (.aload_n 0, 1) := by decide +kernel
theorem dX3_armForSide_18 : decode cX3_armForSide 18 = .ok (.iload 4, 2) := by decide +kernel
theorem dX3_armForSide_20 : decode cX3_armForSide 20 = .ok (.iload_n 3, 1) := by decide +kernel
theorem dX3_armForSide_21 : decode cX3_armForSide 21 = .ok (.invokevirtual 121, 3) := by decide +kernel
theorem dX3_armForSide_24 : decode cX3_armForSide 24 = .ok (.istore 5, 2) := by decide +kernel
theorem dX3_armForSide_26 : decode cX3_armForSide 26 = .ok (.aload_n 0, 1) := by decide +kernel
theorem dX3_armForSide_27 : decode cX3_armForSide 27 = .ok (.getfield 26, 3) := by decide +kernel
theorem dX3_armForSide_30 : decode cX3_armForSide 30 = .ok (.iload 4, 2) := by decide +kernel
theorem dX3_armForSide_32 : decode cX3_armForSide 32 = .ok (.iaload, 1) := by decide +kernel
theorem dX3_armForSide_33 : decode cX3_armForSide 33 = .ok (.iload_n 1, 1) := by decide +kernel
theorem dX3_armForSide_34 : decode cX3_armForSide 34 = .ok (.if_icmp .ne 32, 3) := by decide +kernel
theorem dX3_armForSide_37 : decode cX3_armForSide 37 = .ok (.aload_n 0, 1) := by decide +kernel
theorem dX3_armForSide_38 : decode cX3_armForSide 38 = .ok (.getfield 29, 3) := by decide +kernel
theorem dX3_armForSide_41 : decode cX3_armForSide 41 = .ok (.iload 4, 2) := by decide +kernel
theorem dX3_armForSide_43 : decode cX3_armForSide 43 = .ok (.iaload, 1) := by decide +kernel
theorem dX3_armForSide_44 : decode cX3_armForSide 44 = .ok (.iload_n 2, 1) := by decide +kernel
theorem dX3_armForSide_45 : decode cX3_armForSide 45 = .ok (.if_icmp .ne 21, 3) := by decide +kernel
theorem dX3_armForSide_48 : decode cX3_armForSide 48 = .ok (.iload 5, 2) := by decide +kernel
theorem dX3_armForSide_50 : decode cX3_armForSide 50 = .ok (.iconst (-1), 1) := by decide +kernel
theorem dX3_armForSide_51 : decode cX3_armForSide 51 = .ok (.if_icmp .ne 7, 3) := by decide +kernel
theorem dX3_armForSide_54 : decode cX3_armForSide 54 = .ok (.iconst (-1), 1) := by decide +kernel
theorem dX3_armForSide_55 : decode cX3_armForSide 55 = .ok (.goto 10, 3) := by decide +kernel
theorem dX3_armForSide_58 : decode cX3_armForSide 58 = .ok (.aload_n 0, 1) := by decide +kernel
theorem dX3_armForSide_59 : decode cX3_armForSide 59 = .ok (.getfield 23, 3) := by decide +kernel
theorem dX3_armForSide_62 : decode cX3_armForSide 62 = .ok (.iload 5, 2) := by decide +kernel
theorem dX3_armForSide_64 : decode cX3_armForSide 64 = .ok (.iaload, 1) := by decide +kernel
theorem dX3_armForSide_65 : decode cX3_armForSide 65 = .ok (.ireturn, 1) := by decide +kernel
theorem dX3_armForSide_66 : decode cX3_armForSide 66 = .ok (.iload 5, 2) := by decide +kernel
theorem dX3_armForSide_68 : decode cX3_armForSide 68 = .ok (.iconst (-1), 1) := by decide +kernel
theorem dX3_armForSide_69 : decode cX3_armForSide 69 = .ok (.if_icmp .eq 10, 3) := by decide +kernel
theorem dX3_armForSide_72 : decode cX3_armForSide 72 = .ok (.iload_n 3, 1) := by decide +kernel
theorem dX3_armForSide_73 : decode cX3_armForSide 73 = .ok (.iconst 1, 1) := by decide +kernel
theorem dX3_armForSide_74 : decode cX3_armForSide 74 = .ok (.iload 5, 2) := by decide +kernel
theorem dX3_armForSide_76 : decode cX3_armForSide 76 = .ok (.ishl, 1) := by decide +kernel
theorem dX3_armForSide_77 : decode cX3_armForSide 77 = .ok (.ixor, 1) := by decide +kernel
theorem dX3_armForSide_78 : decode cX3_armForSide 78 = .ok (.istore_n 3, 1) := by decide +kernel
theorem dX3_armForSide_79 : decode cX3_armForSide 79 = .ok (.iinc 4 1, 3) := by decide +kernel
theorem dX3_armForSide_82 : decode cX3_armForSide 82 = .ok (.goto (-74), 3) := by decide +kernel
theorem dX3_armForSide_85 : decode cX3_armForSide 85 = .ok (.iconst (-1), 1) := by decide +kernel
theorem dX3_armForSide_86 : decode cX3_armForSide 86 = .ok (.ireturn, 1) := by decide +kernel
theorem dX3_firstPlace_0 : decode cX3_firstPlace 0 = .ok (.iload_n 2, 1) := by decide +kernel
theorem dX3_firstPlace_1 : decode cX3_firstPlace 1 = .ok (.aload_n 0, 1) := by decide +kernel
theorem dX3_firstPlace_2 : decode cX3_firstPlace 2 = .ok (.getfield 32, 3) := by decide +kernel
theorem dX3_firstPlace_5 : decode cX3_firstPlace 5 = .ok (.iload_n 1, 1) := by decide +kernel
theorem dX3_firstPlace_6 : decode cX3_firstPlace 6 = .ok (.iaload, 1) := by decide +kernel
theorem dX3_firstPlace_7 : decode cX3_firstPlace 7 = .ok (.iand, 1) := by decide +kernel
theorem dX3_firstPlace_8 : decode cX3_firstPlace 8 = .ok (.istore_n 3, 1) := by decide +kernel
theorem dX3_firstPlace_9 : decode cX3_firstPlace 9 = .ok (.iconst 0, 1) := by decide +kernel
theorem dX3_firstPlace_10 : decode cX3_firstPlace 10 = .ok (.istore 4, 2) := by decide +kernel
theorem dX3_firstPlace_12 : decode cX3_firstPlace 12 = .ok (.iload 4, 2) := by decide +kernel
theorem dX3_firstPlace_14 : decode cX3_firstPlace 14 = .ok (.aload_n 0, 1) := by decide +kernel
theorem dX3_firstPlace_15 : decode cX3_firstPlace 15 = .ok (.getfield 45, 3) := by decide +kernel
theorem dX3_firstPlace_18 : decode cX3_firstPlace 18 = .ok (.if_icmp .ge 72, 3) := by decide +kernel
theorem dX3_firstPlace_21 : decode cX3_firstPlace 21 = .ok (.iload_n 3, 1) := by decide +kernel
theorem dX3_firstPlace_22 : decode cX3_firstPlace 22 = .ok (.iload 4, 2) := by decide +kernel
theorem dX3_firstPlace_24 : decode cX3_firstPlace 24 = .ok (.ishr, 1) := by decide +kernel
theorem dX3_firstPlace_25 : decode cX3_firstPlace 25 = .ok (.iconst 1, 1) := by decide +kernel
theorem dX3_firstPlace_26 : decode cX3_firstPlace 26 = .ok (.iand, 1) := by decide +kernel
theorem dX3_firstPlace_27 : decode cX3_firstPlace 27 = .ok (.ifCond .eq 57, 3) := by decide +kernel
theorem dX3_firstPlace_30 : decode cX3_firstPlace 30 = .ok (.aload_n 0, 1) := by decide +kernel
theorem dX3_firstPlace_31 : decode cX3_firstPlace 31 = .ok (.getfield 35, 3) := by decide +kernel
theorem dX3_firstPlace_34 : decode cX3_firstPlace 34 = .ok (.iload_n 1, 1) := by decide +kernel
theorem dX3_firstPlace_35 : decode cX3_firstPlace 35 = .ok (.bipush 8, 2) := by decide +kernel
theorem dX3_firstPlace_37 : decode cX3_firstPlace 37 = .ok (.imul, 1) := by decide +kernel
theorem dX3_firstPlace_38 : decode cX3_firstPlace 38 = .ok (.iload 4, 2) := by decide +kernel
theorem dX3_firstPlace_40 : decode cX3_firstPlace 40 = .ok (.iadd, 1) := by decide +kernel
theorem dX3_firstPlace_41 : decode cX3_firstPlace 41 = .ok (.iaload, 1) := by decide +kernel
theorem dX3_firstPlace_42 : decode cX3_firstPlace 42 = .ok (.aload_n 0, 1) := by decide +kernel
theorem dX3_firstPlace_43 : decode cX3_firstPlace 43 = .ok (.getfield 13, 3) := by decide +kernel
theorem dX3_firstPlace_46 : decode cX3_firstPlace 46 = .ok (.iload_n 1, 1) := by decide +kernel
theorem dX3_firstPlace_47 : decode cX3_firstPlace 47 = .ok (.iconst 1, 1) := by decide +kernel
theorem dX3_firstPlace_48 : decode cX3_firstPlace 48 = .ok (.iadd, 1) := by decide +kernel
theorem dX3_firstPlace_49 : decode cX3_firstPlace 49 = .ok (.sipush 256, 3) := by decide +kernel
theorem dX3_firstPlace_52 : decode cX3_firstPlace 52 = .ok (.imul, 1) := by decide +kernel
theorem dX3_firstPlace_53 : decode cX3_firstPlace 53 = .ok (.iload_n 2, 1) := by decide +kernel
theorem dX3_firstPlace_54 : decode cX3_firstPlace 54 = .ok (.iconst 1, 1) := by decide +kernel
theorem dX3_firstPlace_55 : decode cX3_firstPlace 55 = .ok (.iload 4, 2) := by decide +kernel
theorem dX3_firstPlace_57 : decode cX3_firstPlace 57 = .ok (.ishl, 1) := by decide +kernel
theorem dX3_firstPlace_58 : decode cX3_firstPlace 58 = .ok (.ixor, 1) := by decide +kernel
theorem dX3_firstPlace_59 : decode cX3_firstPlace 59 = .ok (.iadd, 1) := by decide +kernel
theorem dX3_firstPlace_60 : decode cX3_firstPlace 60 = .ok (.iaload, 1) := by decide +kernel
theorem dX3_firstPlace_61 : decode cX3_firstPlace 61 = .ok (.iadd, 1) := by decide +kernel
theorem dX3_firstPlace_62 : decode cX3_firstPlace 62 = .ok (.istore 5, 2) := by decide +kernel
theorem dX3_firstPlace_64 : decode cX3_firstPlace 64 = .ok (.iload 5, 2) := by decide +kernel
theorem dX3_firstPlace_66 : decode cX3_firstPlace 66 = .ok (.aload_n 0, 1) := by decide +kernel
theorem dX3_firstPlace_67 : decode cX3_firstPlace 67 = .ok (.getfield 13, 3) := by decide +kernel
theorem dX3_firstPlace_70 : decode cX3_firstPlace 70 = .ok (.iload_n 1, 1) := by decide +kernel
theorem dX3_firstPlace_71 : decode cX3_firstPlace 71 = .ok (.sipush 256, 3) := by decide +kernel
theorem dX3_firstPlace_74 : decode cX3_firstPlace 74 = .ok (.imul, 1) := by decide +kernel
theorem dX3_firstPlace_75 : decode cX3_firstPlace 75 = .ok (.iload_n 2, 1) := by decide +kernel
theorem dX3_firstPlace_76 : decode cX3_firstPlace 76 = .ok (.iadd, 1) := by decide +kernel
theorem dX3_firstPlace_77 : decode cX3_firstPlace 77 = .ok (.iaload, 1) := by decide +kernel
theorem dX3_firstPlace_78 : decode cX3_firstPlace 78 = .ok (.if_icmp .ne 6, 3) := by decide +kernel
theorem dX3_firstPlace_81 : decode cX3_firstPlace 81 = .ok (.iload 4, 2) := by decide +kernel
theorem dX3_firstPlace_83 : decode cX3_firstPlace 83 = .ok (.ireturn, 1) := by decide +kernel
theorem dX3_firstPlace_84 : decode cX3_firstPlace 84 = .ok (.iinc 4 1, 3) := by decide +kernel
theorem dX3_firstPlace_87 : decode cX3_firstPlace 87 = .ok (.goto (-75), 3) := by decide +kernel
theorem dX3_firstPlace_90 : decode cX3_firstPlace 90 = .ok (.iconst (-1), 1) := by decide +kernel
theorem dX3_firstPlace_91 : decode cX3_firstPlace 91 = .ok (.ireturn, 1) := by decide +kernel
theorem dX3_mostMissed_0 : decode cX3_mostMissed 0 = .ok (.iconst (-1), 1) := by decide +kernel
theorem dX3_mostMissed_1 : decode cX3_mostMissed 1 = .ok (.istore_n 1, 1) := by decide +kernel
theorem dX3_mostMissed_2 : decode cX3_mostMissed 2 = .ok (.iconst 0, 1) := by decide +kernel
theorem dX3_mostMissed_3 : decode cX3_mostMissed 3 = .ok (.istore_n 2, 1) := by decide +kernel
theorem dX3_mostMissed_4 : decode cX3_mostMissed 4 = .ok (.iconst 0, 1) := by decide +kernel
theorem dX3_mostMissed_5 : decode cX3_mostMissed 5 = .ok (.istore_n 3, 1) := by decide +kernel
theorem dX3_mostMissed_6 : decode cX3_mostMissed 6 = .ok (.iload_n 3, 1) := by decide +kernel
theorem dX3_mostMissed_7 : decode cX3_mostMissed 7 = .ok (.aload_n 0, 1) := by decide +kernel
theorem dX3_mostMissed_8 : decode cX3_mostMissed 8 = .ok (.getfield 45, 3) := by decide +kernel
theorem dX3_mostMissed_11 : decode cX3_mostMissed 11 = .ok (.if_icmp .ge 45, 3) := by decide +kernel
theorem dX3_mostMissed_14 : decode cX3_mostMissed 14 = .ok (.aload_n 0, 1) := by decide +kernel
theorem dX3_mostMissed_15 : decode cX3_mostMissed 15 = .ok (.getfield 13, 3) := by decide +kernel
theorem dX3_mostMissed_18 : decode cX3_mostMissed 18 = .ok (.aload_n 0, 1) := by decide +kernel
theorem dX3_mostMissed_19 : decode cX3_mostMissed 19 = .ok (.invokevirtual 63, 3) := by decide +kernel
theorem dX3_mostMissed_22 : decode cX3_mostMissed 22 = .ok (.iconst 1, 1) := by decide +kernel
theorem dX3_mostMissed_23 : decode cX3_mostMissed 23 = .ok (.iload_n 3, 1) := by decide +kernel
theorem dX3_mostMissed_24 : decode cX3_mostMissed 24 = .ok (.ishl, 1) := by decide +kernel
theorem dX3_mostMissed_25 : decode cX3_mostMissed 25 = .ok (.ixor, 1) := by decide +kernel
theorem dX3_mostMissed_26 : decode cX3_mostMissed 26 = .ok (.iaload, 1) := by decide +kernel
theorem dX3_mostMissed_27 : decode cX3_mostMissed 27 = .ok (.istore 4, 2) := by decide +kernel
theorem dX3_mostMissed_29 : decode cX3_mostMissed 29 = .ok (.iload_n 1, 1) := by decide +kernel
theorem dX3_mostMissed_30 : decode cX3_mostMissed 30 = .ok (.iconst (-1), 1) := by decide +kernel
theorem dX3_mostMissed_31 : decode cX3_mostMissed 31 = .ok (.if_icmp .eq 9, 3) := by decide +kernel
theorem dX3_mostMissed_34 : decode cX3_mostMissed 34 = .ok (.iload 4, 2) := by decide +kernel
theorem dX3_mostMissed_36 : decode cX3_mostMissed 36 = .ok (.iload_n 2, 1) := by decide +kernel
theorem dX3_mostMissed_37 : decode cX3_mostMissed 37 = .ok (.if_icmp .ge 13, 3) := by decide +kernel
theorem dX3_mostMissed_40 : decode cX3_mostMissed 40 = .ok (.aload_n 0, 1) := by decide +kernel
theorem dX3_mostMissed_41 : decode cX3_mostMissed 41 = .ok (.getfield 23, 3) := by decide +kernel
theorem dX3_mostMissed_44 : decode cX3_mostMissed 44 = .ok (.iload_n 3, 1) := by decide +kernel
theorem dX3_mostMissed_45 : decode cX3_mostMissed 45 = .ok (.iaload, 1) := by decide +kernel
theorem dX3_mostMissed_46 : decode cX3_mostMissed 46 = .ok (.istore_n 1, 1) := by decide +kernel
theorem dX3_mostMissed_47 : decode cX3_mostMissed 47 = .ok (.iload 4, 2) := by decide +kernel
theorem dX3_mostMissed_49 : decode cX3_mostMissed 49 = .ok (.istore_n 2, 1) := by decide +kernel
theorem dX3_mostMissed_50 : decode cX3_mostMissed 50 = .ok (.iinc 3 1, 3) := by decide +kernel
theorem dX3_mostMissed_53 : decode cX3_mostMissed 53 = .ok (.goto (-47), 3) := by decide +kernel
theorem dX3_mostMissed_56 : decode cX3_mostMissed 56 = .ok (.iload_n 1, 1) := by decide +kernel
theorem dX3_mostMissed_57 : decode cX3_mostMissed 57 = .ok (.ireturn, 1) := by decide +kernel
theorem dX3_castAnew_0 : decode cX3_castAnew 0 = .ok (.aload_n 0, 1) := by decide +kernel
theorem dX3_castAnew_1 : decode cX3_castAnew 1 = .ok (.invokevirtual 124, 3) := by decide +kernel
theorem dX3_castAnew_4 : decode cX3_castAnew 4 = .ok (.iconst 0, 1) := by decide +kernel
theorem dX3_castAnew_5 : decode cX3_castAnew 5 = .ok (.istore_n 2, 1) := by decide +kernel
theorem dX3_castAnew_6 : decode cX3_castAnew 6 = .ok (.aload_n 0, 1) := by decide +kernel
theorem dX3_castAnew_7 : decode cX3_castAnew 7 = .ok (.getfield 13, 3) := by decide +kernel
theorem dX3_castAnew_10 : decode cX3_castAnew 10 = .ok (.aload_n 0, 1) := by decide +kernel
theorem dX3_castAnew_11 : decode cX3_castAnew 11 = .ok (.invokevirtual 63, 3) := by decide +kernel
theorem dX3_castAnew_14 : decode cX3_castAnew 14 = .ok (.iaload, 1) := by decide +kernel
theorem dX3_castAnew_15 : decode cX3_castAnew 15 = .ok (.istore_n 3, 1) := by decide +kernel
theorem dX3_castAnew_16 : decode cX3_castAnew 16 = .ok (.iconst 0, 1) := by decide +kernel
theorem dX3_castAnew_17 : decode cX3_castAnew 17 = .ok (.istore 4, 2) := by decide +kernel
theorem dX3_castAnew_19 : decode cX3_castAnew 19 = .ok (.iload 4, 2) := by decide +kernel
theorem dX3_castAnew_21 : decode cX3_castAnew 21 = .ok (.sipush 200, 3) := by decide +kernel
theorem dX3_castAnew_24 : decode cX3_castAnew 24 = .ok (.if_icmp .ge 56, 3) := by decide +kernel
theorem dX3_castAnew_27 : decode cX3_castAnew 27 = .ok (.aload_n 0, 1) := by decide +kernel
theorem dX3_castAnew_28 : decode cX3_castAnew 28 = .ok (.getfield 41, 3) := by decide +kernel
theorem dX3_castAnew_31 : decode cX3_castAnew 31 = .ok (.iconst 0, 1) := by decide +kernel
theorem dX3_castAnew_32 : decode cX3_castAnew 32 = .ok (.iconst 0, 1) := by decide +kernel
theorem dX3_castAnew_33 : decode cX3_castAnew 33 = .ok (.iload 4, 2) := by decide +kernel
theorem dX3_castAnew_35 : decode cX3_castAnew 35 = .ok (.bipush 100, 2) := by decide +kernel
theorem dX3_castAnew_37 : decode cX3_castAnew 37 = .ok (.idiv, 1) := by decide +kernel
theorem dX3_castAnew_38 : decode cX3_castAnew 38 = .ok (.iload 4, 2) := by decide +kernel
theorem dX3_castAnew_40 : decode cX3_castAnew 40 = .ok (.bipush 10, 2) := by decide +kernel
theorem dX3_castAnew_42 : decode cX3_castAnew 42 = .ok (.idiv, 1) := by decide +kernel
theorem dX3_castAnew_43 : decode cX3_castAnew 43 = .ok (.bipush 10, 2) := by decide +kernel
theorem dX3_castAnew_45 : decode cX3_castAnew 45 = .ok (.irem, 1) := by decide +kernel
theorem dX3_castAnew_46 : decode cX3_castAnew 46 = .ok (.iload 4, 2) := by decide +kernel
theorem dX3_castAnew_48 : decode cX3_castAnew 48 = .ok (.bipush 10, 2) := by decide +kernel
theorem dX3_castAnew_50 : decode cX3_castAnew 50 = .ok (.irem, 1) := by decide +kernel
theorem dX3_castAnew_51 : decode cX3_castAnew 51 = .ok (.iconst 0, 1) := by decide +kernel
theorem dX3_castAnew_52 : decode cX3_castAnew 52 = .ok (.invokevirtual 127, 3) := by decide +kernel
theorem dX3_castAnew_55 : decode cX3_castAnew 55 = .ok (.aload_n 0, 1) := by decide +kernel
theorem dX3_castAnew_56 : decode cX3_castAnew 56 = .ok (.aload_n 1, 1) := by decide +kernel
theorem dX3_castAnew_57 : decode cX3_castAnew 57 = .ok (.invokevirtual 131, 3) := by decide +kernel
theorem dX3_castAnew_60 : decode cX3_castAnew 60 = .ok (.istore 5, 2) := by decide +kernel
theorem dX3_castAnew_62 : decode cX3_castAnew 62 = .ok (.iload 5, 2) := by decide +kernel
theorem dX3_castAnew_64 : decode cX3_castAnew 64 = .ok (.iload_n 3, 1) := by decide +kernel
theorem dX3_castAnew_65 : decode cX3_castAnew 65 = .ok (.if_icmp .le 9, 3) := by decide +kernel
theorem dX3_castAnew_68 : decode cX3_castAnew 68 = .ok (.iload 5, 2) := by decide +kernel
theorem dX3_castAnew_70 : decode cX3_castAnew 70 = .ok (.istore_n 3, 1) := by decide +kernel
theorem dX3_castAnew_71 : decode cX3_castAnew 71 = .ok (.iload 4, 2) := by decide +kernel
theorem dX3_castAnew_73 : decode cX3_castAnew 73 = .ok (.istore_n 2, 1) := by decide +kernel
theorem dX3_castAnew_74 : decode cX3_castAnew 74 = .ok (.iinc 4 1, 3) := by decide +kernel
theorem dX3_castAnew_77 : decode cX3_castAnew 77 = .ok (.goto (-58), 3) := by decide +kernel
theorem dX3_castAnew_80 : decode cX3_castAnew 80 = .ok (.iload_n 2, 1) := by decide +kernel
theorem dX3_castAnew_81 : decode cX3_castAnew 81 = .ok (.ireturn, 1) := by decide +kernel
theorem dX3_weighWithoutEach_0 : decode cX3_weighWithoutEach 0 = .ok (.iconst 0, 1) := by decide +kernel
theorem dX3_weighWithoutEach_1 : decode cX3_weighWithoutEach 1 = .ok (.istore_n 1, 1) := by decide +kernel
theorem dX3_weighWithoutEach_2 : decode cX3_weighWithoutEach 2 = .ok (.iload_n 1, 1) := by decide +kernel
theorem dX3_weighWithoutEach_3 : decode cX3_weighWithoutEach 3 = .ok (.aload_n 0, 1) := by decide +kernel
theorem dX3_weighWithoutEach_4 : decode cX3_weighWithoutEach 4 = .ok (.invokevirtual 63, 3) := by decide +kernel
theorem dX3_weighWithoutEach_7 : decode cX3_weighWithoutEach 7 = .ok (.if_icmp .gt 16, 3) := by decide +kernel
theorem dX3_weighWithoutEach_10 : decode cX3_weighWithoutEach 10 = .ok (.aload_n 0, 1) := by decide +kernel
theorem dX3_weighWithoutEach_11 : decode cX3_weighWithoutEach 11 = .ok (.getfield 17, 3) := by decide +kernel
theorem dX3_weighWithoutEach_14 : decode cX3_weighWithoutEach 14 = .ok (.iload_n 1, 1) := by decide +kernel
theorem dX3_weighWithoutEach_15 : decode cX3_weighWithoutEach 15 = .ok (.iconst 0, 1) := by decide +kernel
theorem dX3_weighWithoutEach_16 : decode cX3_weighWithoutEach 16 = .ok (.iastore, 1) := by decide +kernel
theorem dX3_weighWithoutEach_17 : decode cX3_weighWithoutEach 17 = .ok (.iinc 1 1, 3) := by decide +kernel
theorem dX3_weighWithoutEach_20 : decode cX3_weighWithoutEach 20 = .ok (.goto (-18), 3) := by decide +kernel
theorem dX3_weighWithoutEach_23 : decode cX3_weighWithoutEach 23 = .ok (.iconst 0, 1) := by decide +kernel
theorem dX3_weighWithoutEach_24 : decode cX3_weighWithoutEach 24 = .ok (.istore_n 1, 1) := by decide +kernel
theorem dX3_weighWithoutEach_25 : decode cX3_weighWithoutEach 25 = .ok (.iload_n 1, 1) := by decide +kernel
theorem dX3_weighWithoutEach_26 : decode cX3_weighWithoutEach 26 = .ok (.aload_n 0, 1) := by decide +kernel
theorem dX3_weighWithoutEach_27 : decode cX3_weighWithoutEach 27 = .ok (.getfield 49, 3) := by decide +kernel
theorem dX3_weighWithoutEach_30 : decode cX3_weighWithoutEach 30 = .ok (.if_icmp .ge 91, 3) := by decide +kernel
theorem dX3_weighWithoutEach_33 : decode cX3_weighWithoutEach 33 = .ok (.aload_n 0, 1) := by decide +kernel
theorem dX3_weighWithoutEach_34 : decode cX3_weighWithoutEach 34 = .ok (.getfield 20, 3) := by decide +kernel
theorem dX3_weighWithoutEach_37 : decode cX3_weighWithoutEach 37 = .ok (.iload_n 1, 1) := by decide +kernel
theorem dX3_weighWithoutEach_38 : decode cX3_weighWithoutEach 38 = .ok (.iconst 0, 1) := by decide +kernel
theorem dX3_weighWithoutEach_39 : decode cX3_weighWithoutEach 39 = .ok (.iastore, 1) := by decide +kernel
theorem dX3_weighWithoutEach_40 : decode cX3_weighWithoutEach 40 = .ok (.aload_n 0, 1) := by decide +kernel
theorem dX3_weighWithoutEach_41 : decode cX3_weighWithoutEach 41 = .ok (.invokevirtual 63, 3) := by decide +kernel
theorem dX3_weighWithoutEach_44 : decode cX3_weighWithoutEach 44 = .ok (.istore_n 2, 1) := by decide +kernel
theorem dX3_weighWithoutEach_45 : decode cX3_weighWithoutEach 45 = .ok (.iload_n 2, 1) := by decide +kernel
theorem dX3_weighWithoutEach_46 : decode cX3_weighWithoutEach 46 = .ok (.ifCond .lt 69, 3) := by decide +kernel
theorem dX3_weighWithoutEach_49 : decode cX3_weighWithoutEach 49 = .ok (.aload_n 0, 1) := by decide +kernel
theorem dX3_weighWithoutEach_50 : decode cX3_weighWithoutEach 50 = .ok (.getfield 17, 3) := by decide +kernel
theorem dX3_weighWithoutEach_53 : decode cX3_weighWithoutEach 53 = .ok (.iload_n 2, 1) := by decide +kernel
theorem dX3_weighWithoutEach_54 : decode cX3_weighWithoutEach 54 = .ok (.iaload, 1) := by decide +kernel
theorem dX3_weighWithoutEach_55 : decode cX3_weighWithoutEach 55 = .ok (.aload_n 0, 1) := by decide +kernel
theorem dX3_weighWithoutEach_56 : decode cX3_weighWithoutEach 56 = .ok (.getfield 13, 3) := by decide +kernel
