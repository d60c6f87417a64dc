theorem dX7_insert_11 : decode cX7_insert 11 = .ok (.ifCond .ne 5, 3) := by decide +kernel
theorem dX7_insert_14 : decode cX7_insert 14 = .ok (.iconst (-1), 1) := by decide +kernel
theorem dX7_insert_15 : decode cX7_insert 15 = .ok (.ireturn, 1) := by decide +kernel
theorem dX7_insert_16 : decode cX7_insert 16 = .ok (.iload_n 2, 1) := by decide +kernel
theorem dX7_insert_17 : decode cX7_insert 17 = .ok (.iconst 1, 1) := by decide +kernel
theorem dX7_insert_18 : decode cX7_insert 18 = .ok (.ldc 69, 2) := by decide +kernel
theorem dX7_insert_20 : decode cX7_insert 20 = .ok (.invokestatic 56, 3) := by decide +kernel
theorem dX7_insert_23 : decode cX7_insert 23 = .ok (.ifCond .ne 6, 3) := by decide +kernel
theorem dX7_insert_26 : decode cX7_insert 26 = .ok (.bipush (-2), 2) := by decide +kernel
theorem dX7_insert_28 : decode cX7_insert 28 = .ok (.ireturn, 1) := by decide +kernel
theorem dX7_insert_29 : decode cX7_insert 29 = .ok (.aload_n 0, 1) := by decide +kernel
theorem dX7_insert_30 : decode cX7_insert 30 = .ok (.getfield 70, 3) := by decide +kernel
theorem dX7_insert_33 : decode cX7_insert 33 = .ok (.sipush 400, 3) := by decide +kernel
theorem dX7_insert_36 : decode cX7_insert 36 = .ok (.if_icmp .lt 6, 3) := by decide +kernel
theorem dX7_insert_39 : decode cX7_insert 39 = .ok (.bipush (-4), 2) := by decide +kernel
theorem dX7_insert_41 : decode cX7_insert 41 = .ok (.ireturn, 1) := by decide +kernel
theorem dX7_insert_42 : decode cX7_insert 42 = .ok (.new 9, 3) := by decide +kernel
theorem dX7_insert_45 : decode cX7_insert 45 = .ok (.dup, 1) := by decide +kernel
theorem dX7_insert_46 : decode cX7_insert 46 = .ok (.aload_n 0, 1) := by decide +kernel
theorem dX7_insert_47 : decode cX7_insert 47 = .ok (.getfield 70, 3) := by decide +kernel
theorem dX7_insert_50 : decode cX7_insert 50 = .ok (.getstatic 108, 3) := by decide +kernel
theorem dX7_insert_53 : decode cX7_insert 53 = .ok (.iload_n 2, 1) := by decide +kernel
theorem dX7_insert_54 : decode cX7_insert 54 = .ok (.invokespecial 79, 3) := by decide +kernel
theorem dX7_insert_57 : decode cX7_insert 57 = .ok (.astore 4, 2) := by decide +kernel
theorem dX7_insert_59 : decode cX7_insert 59 = .ok (.aload 4, 2) := by decide +kernel
theorem dX7_insert_61 : decode cX7_insert 61 = .ok (.aload_n 0, 1) := by decide +kernel
theorem dX7_insert_62 : decode cX7_insert 62 = .ok (.getfield 17, 3) := by decide +kernel
theorem dX7_insert_65 : decode cX7_insert 65 = .ok (.iload_n 1, 1) := by decide +kernel
theorem dX7_insert_66 : decode cX7_insert 66 = .ok (.aaload, 1) := by decide +kernel
theorem dX7_insert_67 : decode cX7_insert 67 = .ok (.putfield 111, 3) := by decide +kernel
theorem dX7_insert_70 : decode cX7_insert 70 = .ok (.aload 4, 2) := by decide +kernel
theorem dX7_insert_72 : decode cX7_insert 72 = .ok (.iload_n 3, 1) := by decide +kernel
theorem dX7_insert_73 : decode cX7_insert 73 = .ok (.putfield 115, 3) := by decide +kernel
theorem dX7_insert_76 : decode cX7_insert 76 = .ok (.aload 4, 2) := by decide +kernel
theorem dX7_insert_78 : decode cX7_insert 78 = .ok (.iload_n 2, 1) := by decide +kernel
theorem dX7_insert_79 : decode cX7_insert 79 = .ok (.putfield 119, 3) := by decide +kernel
theorem dX7_insert_82 : decode cX7_insert 82 = .ok (.aload_n 0, 1) := by decide +kernel
theorem dX7_insert_83 : decode cX7_insert 83 = .ok (.aload 4, 2) := by decide +kernel
theorem dX7_insert_85 : decode cX7_insert 85 = .ok (.invokevirtual 85, 3) := by decide +kernel
theorem dX7_insert_88 : decode cX7_insert 88 = .ok (.ireturn, 1) := by decide +kernel
theorem dX7_mark_0 : decode cX7_mark 0 = .ok (.aload_n 0, 1) := by decide +kernel
theorem dX7_mark_1 : decode cX7_mark 1 = .ok (.getfield 70, 3) := by decide +kernel
theorem dX7_mark_4 : decode cX7_mark 4 = .ok (.sipush 400, 3) := by decide +kernel
theorem dX7_mark_7 : decode cX7_mark 7 = .ok (.if_icmp .lt 6, 3) := by decide +kernel
theorem dX7_mark_10 : decode cX7_mark 10 = .ok (.bipush (-4), 2) := by decide +kernel
theorem dX7_mark_12 : decode cX7_mark 12 = .ok (.ireturn, 1) := by decide +kernel
theorem dX7_mark_13 : decode cX7_mark 13 = .ok (.aload_n 0, 1) := by decide +kernel
theorem dX7_mark_14 : decode cX7_mark 14 = .ok (.new 9, 3) := by decide +kernel
theorem dX7_mark_17 : decode cX7_mark 17 = .ok (.dup, 1) := by decide +kernel
theorem dX7_mark_18 : decode cX7_mark 18 = .ok (.aload_n 0, 1) := by decide +kernel
theorem dX7_mark_19 : decode cX7_mark 19 = .ok (.getfield 70, 3) := by decide +kernel
theorem dX7_mark_22 : decode cX7_mark 22 = .ok (.getstatic 122, 3) := by decide +kernel
theorem dX7_mark_25 : decode cX7_mark 25 = .ok (.iload_n 1, 1) := by decide +kernel
theorem dX7_mark_26 : decode cX7_mark 26 = .ok (.invokespecial 79, 3) := by decide +kernel
theorem dX7_mark_29 : decode cX7_mark 29 = .ok (.invokevirtual 85, 3) := by decide +kernel
theorem dX7_mark_32 : decode cX7_mark 32 = .ok (.ireturn, 1) := by decide +kernel
theorem dX7_run_0 : decode cX7_run 0 = .ok (.aload_n 0, 1) := by decide +kernel
theorem dX7_run_1 : decode cX7_run 1 = .ok (.getfield 125, 3) := by decide +kernel
theorem dX7_run_4 : decode cX7_run 4 = .ok (.istore_n 1, 1) := by decide +kernel
theorem dX7_run_5 : decode cX7_run 5 = .ok (.iconst 1, 1) := by decide +kernel
theorem dX7_run_6 : decode cX7_run 6 = .ok (.istore_n 2, 1) := by decide +kernel
theorem dX7_run_7 : decode cX7_run 7 = .ok (.iconst 0, 1) := by decide +kernel
theorem dX7_run_8 : decode cX7_run 8 = .ok (.istore_n 3, 1) := by decide +kernel
theorem dX7_run_9 : decode cX7_run 9 = .ok (.iload_n 2, 1) := by decide +kernel
theorem dX7_run_10 : decode cX7_run 10 = .ok (.ifCond .eq 20, 3) := by decide +kernel
theorem dX7_run_13 : decode cX7_run 13 = .ok (.iload_n 3, 1) := by decide +kernel
theorem dX7_run_14 : decode cX7_run 14 = .ok (.ldc 128, 2) := by decide +kernel
theorem dX7_run_16 : decode cX7_run 16 = .ok (.if_icmp .ge 14, 3) := by decide +kernel
theorem dX7_run_19 : decode cX7_run 19 = .ok (.aload_n 0, 1) := by decide +kernel
theorem dX7_run_20 : decode cX7_run 20 = .ok (.invokevirtual 129, 3) := by decide +kernel
theorem dX7_run_23 : decode cX7_run 23 = .ok (.istore_n 2, 1) := by decide +kernel
theorem dX7_run_24 : decode cX7_run 24 = .ok (.iinc 3 1, 3) := by decide +kernel
theorem dX7_run_27 : decode cX7_run 27 = .ok (.goto (-18), 3) := by decide +kernel
theorem dX7_run_30 : decode cX7_run 30 = .ok (.aload_n 0, 1) := by decide +kernel
theorem dX7_run_31 : decode cX7_run 31 = .ok (.getfield 125, 3) := by decide +kernel
theorem dX7_run_34 : decode cX7_run 34 = .ok (.iload_n 1, 1) := by decide +kernel
theorem dX7_run_35 : decode cX7_run 35 = .ok (.isub, 1) := by decide +kernel
theorem dX7_run_36 : decode cX7_run 36 = .ok (.ireturn, 1) := by decide +kernel
theorem dX7_at_0 : decode cX7_at 0 = .ok (.aload_n 0, 1) := by decide +kernel
theorem dX7_at_1 : decode cX7_at 1 = .ok (.iload_n 1, 1) := by decide +kernel
theorem dX7_at_2 : decode cX7_at 2 = .ok (.invokevirtual 133, 3) := by decide +kernel
theorem dX7_at_5 : decode cX7_at 5 = .ok (.astore_n 3, 1) := by decide +kernel
theorem dX7_at_6 : decode cX7_at 6 = .ok (.aload_n 3, 1) := by decide +kernel
theorem dX7_at_7 : decode cX7_at 7 = .ok (.ifnull 18, 3) := by decide +kernel
theorem dX7_at_10 : decode cX7_at 10 = .ok (.iload_n 2, 1) := by decide +kernel
theorem dX7_at_11 : decode cX7_at 11 = .ok (.iconst 0, 1) := by decide +kernel
theorem dX7_at_12 : decode cX7_at 12 = .ok (.aload_n 3, 1) := by decide +kernel
theorem dX7_at_13 : decode cX7_at 13 = .ok (.getfield 137, 3) := by decide +kernel
theorem dX7_at_16 : decode cX7_at 16 = .ok (.arraylength, 1) := by decide +kernel
theorem dX7_at_17 : decode cX7_at 17 = .ok (.iconst 1, 1) := by decide +kernel
theorem dX7_at_18 : decode cX7_at 18 = .ok (.isub, 1) := by decide +kernel
theorem dX7_at_19 : decode cX7_at 19 = .ok (.invokestatic 56, 3) := by decide +kernel
theorem dX7_at_22 : decode cX7_at 22 = .ok (.ifCond .ne 5, 3) := by decide +kernel
theorem dX7_at_25 : decode cX7_at 25 = .ok (.iconst (-1), 1) := by decide +kernel
theorem dX7_at_26 : decode cX7_at 26 = .ok (.ireturn, 1) := by decide +kernel
theorem dX7_at_27 : decode cX7_at 27 = .ok (.aload_n 3, 1) := by decide +kernel
theorem dX7_at_28 : decode cX7_at 28 = .ok (.getfield 137, 3) := by decide +kernel
theorem dX7_at_31 : decode cX7_at 31 = .ok (.iload_n 2, 1) := by decide +kernel
theorem dX7_at_32 : decode cX7_at 32 = .ok (.iaload, 1) := by decide +kernel
theorem dX7_at_33 : decode cX7_at 33 = .ok (.ireturn, 1) := by decide +kernel
theorem dX7_part_0 : decode cX7_part 0 = .ok (.aload_n 0, 1) := by decide +kernel
theorem dX7_part_1 : decode cX7_part 1 = .ok (.iload_n 1, 1) := by decide +kernel
theorem dX7_part_2 : decode cX7_part 2 = .ok (.invokevirtual 133, 3) := by decide +kernel
theorem dX7_part_5 : decode cX7_part 5 = .ok (.astore_n 3, 1) := by decide +kernel
theorem dX7_part_6 : decode cX7_part 6 = .ok (.aload_n 3, 1) := by decide +kernel
theorem dX7_part_7 : decode cX7_part 7 = .ok (.ifnull 18, 3) := by decide +kernel
theorem dX7_part_10 : decode cX7_part 10 = .ok (.iload_n 2, 1) := by decide +kernel
theorem dX7_part_11 : decode cX7_part 11 = .ok (.iconst 0, 1) := by decide +kernel
theorem dX7_part_12 : decode cX7_part 12 = .ok (.aload_n 3, 1) := by decide +kernel
theorem dX7_part_13 : decode cX7_part 13 = .ok (.getfield 141, 3) := by decide +kernel
theorem dX7_part_16 : decode cX7_part 16 = .ok (.arraylength, 1) := by decide +kernel
theorem dX7_part_17 : decode cX7_part 17 = .ok (.iconst 1, 1) := by decide +kernel
theorem dX7_part_18 : decode cX7_part 18 = .ok (.isub, 1) := by decide +kernel
theorem dX7_part_19 : decode cX7_part 19 = .ok (.invokestatic 56, 3) := by decide +kernel
theorem dX7_part_22 : decode cX7_part 22 = .ok (.ifCond .ne 5, 3) := by decide +kernel
theorem dX7_part_25 : decode cX7_part 25 = .ok (.iconst 0, 1) := by decide +kernel
theorem dX7_part_26 : decode cX7_part 26 = .ok (.ireturn, 1) := by decide +kernel
theorem dX7_part_27 : decode cX7_part 27 = .ok (.aload_n 3, 1) := by decide +kernel
theorem dX7_part_28 : decode cX7_part 28 = .ok (.getfield 141, 3) := by decide +kernel
theorem dX7_part_31 : decode cX7_part 31 = .ok (.iload_n 2, 1) := by decide +kernel
theorem dX7_part_32 : decode cX7_part 32 = .ok (.iaload, 1) := by decide +kernel
theorem dX7_part_33 : decode cX7_part 33 = .ok (.ireturn, 1) := by decide +kernel
theorem dX7_told_0 : decode cX7_told 0 = .ok (.aload_n 0, 1) := by decide +kernel
theorem dX7_told_1 : decode cX7_told 1 = .ok (.iload_n 1, 1) := by decide +kernel
theorem dX7_told_2 : decode cX7_told 2 = .ok (.invokevirtual 133, 3) := by decide +kernel
theorem dX7_told_5 : decode cX7_told 5 = .ok (.astore_n 3, 1) := by decide +kernel
theorem dX7_told_6 : decode cX7_told 6 = .ok (.aload_n 3, 1) := by decide +kernel
theorem dX7_told_7 : decode cX7_told 7 = .ok (.ifnonnull 7, 3) := by decide +kernel
theorem dX7_told_10 : decode cX7_told 10 = .ok (.ldc2_w 144, 3) := by decide +kernel
theorem dX7_told_13 : decode cX7_told 13 = .ok (.lreturn, 1) := by decide +kernel
theorem dX7_told_14 : decode cX7_told 14 = .ok (.iload_n 2, 1) := by decide +kernel
theorem dX7_told_15 : decode cX7_told 15 = .ok (.tableswitch 104 0 14 #[73, 104, 104, 104, 104, 104, 104, 104, 104, 80, 85, 91, 91, 91, 91], 73) := by decide +kernel
theorem dX7_told_88 : decode cX7_told 88 = .ok (.aload_n 3, 1) := by decide +kernel
theorem dX7_told_89 : decode cX7_told 89 = .ok (.getfield 137, 3) := by decide +kernel
theorem dX7_told_92 : decode cX7_told 92 = .ok (.arraylength, 1) := by decide +kernel
theorem dX7_told_93 : decode cX7_told 93 = .ok (.i2l, 1) := by decide +kernel
theorem dX7_told_94 : decode cX7_told 94 = .ok (.lreturn, 1) := by decide +kernel
theorem dX7_told_95 : decode cX7_told 95 = .ok (.aload_n 3, 1) := by decide +kernel
theorem dX7_told_96 : decode cX7_told 96 = .ok (.getfield 146, 3) := by decide +kernel
theorem dX7_told_99 : decode cX7_told 99 = .ok (.lreturn, 1) := by decide +kernel
theorem dX7_told_100 : decode cX7_told 100 = .ok (.aload_n 3, 1) := by decide +kernel
theorem dX7_told_101 : decode cX7_told 101 = .ok (.getfield 150, 3) := by decide +kernel
theorem dX7_told_104 : decode cX7_told 104 = .ok (.i2l, 1) := by decide +kernel
theorem dX7_told_105 : decode cX7_told 105 = .ok (.lreturn, 1) := by decide +kernel
theorem dX7_told_106 : decode cX7_told 106 = .ok (.aload_n 3, 1) := by decide +kernel
theorem dX7_told_107 : decode cX7_told 107 = .ok (.getfield 153, 3) := by decide +kernel
theorem dX7_told_110 : decode cX7_told 110 = .ok (.getfield 157, 3) := by decide +kernel
theorem dX7_told_113 : decode cX7_told 113 = .ok (.iload_n 2, 1) := by decide +kernel
theorem dX7_told_114 : decode cX7_told 114 = .ok (.bipush 11, 2) := by decide +kernel
theorem dX7_told_116 : decode cX7_told 116 = .ok (.isub, 1) := by decide +kernel
theorem dX7_told_117 : decode cX7_told 117 = .ok (.laload, 1) := by decide +kernel
theorem dX7_told_118 : decode cX7_told 118 = .ok (.lreturn, 1) := by decide +kernel
theorem dX7_told_119 : decode cX7_told 119 = .ok (.aload_n 3, 1) := by decide +kernel
theorem dX7_told_120 : decode cX7_told 120 = .ok (.getfield 153, 3) := by decide +kernel
theorem dX7_told_123 : decode cX7_told 123 = .ok (.iload_n 2, 1) := by decide +kernel
theorem dX7_told_124 : decode cX7_told 124 = .ok (.invokevirtual 163, 3) := by decide +kernel
theorem dX7_told_127 : decode cX7_told 127 = .ok (.lreturn, 1) := by decide +kernel
theorem dX7_marked_0 : decode cX7_marked 0 = .ok (.aload_n 0, 1) := by decide +kernel
theorem dX7_marked_1 : decode cX7_marked 1 = .ok (.iload_n 1, 1) := by decide +kernel
theorem dX7_marked_2 : decode cX7_marked 2 = .ok (.invokevirtual 133, 3) := by decide +kernel
theorem dX7_marked_5 : decode cX7_marked 5 = .ok (.astore_n 3, 1) := by decide +kernel
theorem dX7_marked_6 : decode cX7_marked 6 = .ok (.aload_n 3, 1) := by decide +kernel
theorem dX7_marked_7 : decode cX7_marked 7 = .ok (.ifnull 12, 3) := by decide +kernel
theorem dX7_marked_10 : decode cX7_marked 10 = .ok (.iload_n 2, 1) := by decide +kernel
theorem dX7_marked_11 : decode cX7_marked 11 = .ok (.iconst 0, 1) := by decide +kernel
theorem dX7_marked_12 : decode cX7_marked 12 = .ok (.iconst 2, 1) := by decide +kernel
theorem dX7_marked_13 : decode cX7_marked 13 = .ok (.invokestatic 56, 3) := by decide +kernel
theorem dX7_marked_16 : decode cX7_marked 16 = .ok (.ifCond .ne 13, 3) := by decide +kernel
theorem dX7_marked_19 : decode cX7_marked 19 = .ok (.new 167, 3) := by decide +kernel
theorem dX7_marked_22 : decode cX7_marked 22 = .ok (.dup, 1) := by decide +kernel
theorem dX7_marked_23 : decode cX7_marked 23 = .ok (.ldc 169, 2) := by decide +kernel
theorem dX7_marked_25 : decode cX7_marked 25 = .ok (.invokespecial 171, 3) := by decide +kernel
theorem dX7_marked_28 : decode cX7_marked 28 = .ok (.athrow, 1) := by decide +kernel
theorem dX7_marked_29 : decode cX7_marked 29 = .ok (.iload_n 2, 1) := by decide +kernel
theorem dX7_marked_30 : decode cX7_marked 30 = .ok (.ifCond .ne 8, 3) := by decide +kernel
theorem dX7_marked_33 : decode cX7_marked 33 = .ok (.aload_n 3, 1) := by decide +kernel
theorem dX7_marked_34 : decode cX7_marked 34 = .ok (.getfield 174, 3) := by decide +kernel
theorem dX7_marked_37 : decode cX7_marked 37 = .ok (.ireturn, 1) := by decide +kernel
theorem dX7_marked_38 : decode cX7_marked 38 = .ok (.iload_n 2, 1) := by decide +kernel
theorem dX7_marked_39 : decode cX7_marked 39 = .ok (.iconst 1, 1) := by decide +kernel
theorem dX7_marked_40 : decode cX7_marked 40 = .ok (.if_icmp .ne 10, 3) := by decide +kernel
theorem dX7_marked_43 : decode cX7_marked 43 = .ok (.aload_n 3, 1) := by decide +kernel
theorem dX7_marked_44 : decode cX7_marked 44 = .ok (.getfield 177, 3) := by decide +kernel
theorem dX7_marked_47 : decode cX7_marked 47 = .ok (.goto 7, 3) := by decide +kernel
theorem dX7_marked_50 : decode cX7_marked 50 = .ok (.aload_n 3, 1) := by decide +kernel
theorem dX7_marked_51 : decode cX7_marked 51 = .ok (.getfield 180, 3) := by decide +kernel
theorem dX7_marked_54 : decode cX7_marked 54 = .ok (.ireturn, 1) := by decide +kernel
theorem dX7_now_0 : decode cX7_now 0 = .ok (.aload_n 0, 1) := by decide +kernel
theorem dX7_now_1 : decode cX7_now 1 = .ok (.getfield 30, 3) := by decide +kernel
theorem dX7_now_4 : decode cX7_now 4 = .ok (.iconst 0, 1) := by decide +kernel
theorem dX7_now_5 : decode cX7_now 5 = .ok (.invokevirtual 183, 3) := by decide +kernel
theorem dX7_now_8 : decode cX7_now 8 = .ok (.astore_n 2, 1) := by decide +kernel
theorem dX7_now_9 : decode cX7_now 9 = .ok (.iload_n 1, 1) := by decide +kernel
theorem dX7_now_10 : decode cX7_now 10 = .ok (.tableswitch 134 0 13 #[70, 134, 134, 134, 134, 134, 134, 134, 134, 79, 87, 95, 104, 120], 70) := by decide +kernel
theorem dX7_now_80 : decode cX7_now 80 = .ok (.aload_n 0, 1) := by decide +kernel
theorem dX7_now_81 : decode cX7_now 81 = .ok (.getfield 37, 3) := by decide +kernel
theorem dX7_now_84 : decode cX7_now 84 = .ok (.getfield 60, 3) := by decide +kernel
theorem dX7_now_87 : decode cX7_now 87 = .ok (.i2l, 1) := by decide +kernel
theorem dX7_now_88 : decode cX7_now 88 = .ok (.lreturn, 1) := by decide +kernel
theorem dX7_now_89 : decode cX7_now 89 = .ok (.aload_n 0, 1) := by decide +kernel
theorem dX7_now_90 : decode cX7_now 90 = .ok (.getfield 37, 3) := by decide +kernel
theorem dX7_now_93 : decode cX7_now 93 = .ok (.getfield 187, 3) := by decide +kernel
theorem dX7_now_96 : decode cX7_now 96 = .ok (.lreturn, 1) := by decide +kernel
theorem dX7_now_97 : decode cX7_now 97 = .ok (.aload_n 0, 1) := by decide +kernel
theorem dX7_now_98 : decode cX7_now 98 = .ok (.getfield 37, 3) := by decide +kernel
theorem dX7_now_101 : decode cX7_now 101 = .ok (.getfield 188, 3) := by decide +kernel
theorem dX7_now_104 : decode cX7_now 104 = .ok (.lreturn, 1) := by decide +kernel
theorem dX7_now_105 : decode cX7_now 105 = .ok (.aload_n 0, 1) := by decide +kernel
theorem dX7_now_106 : decode cX7_now 106 = .ok (.getfield 30, 3) := by decide +kernel
theorem dX7_now_109 : decode cX7_now 109 = .ok (.getfield 191, 3) := by decide +kernel
theorem dX7_now_112 : decode cX7_now 112 = .ok (.i2l, 1) := by decide +kernel
theorem dX7_now_113 : decode cX7_now 113 = .ok (.lreturn, 1) := by decide +kernel
theorem dX7_now_114 : decode cX7_now 114 = .ok (.aload_n 2, 1) := by decide +kernel
theorem dX7_now_115 : decode cX7_now 115 = .ok (.ifnonnull 9, 3) := by decide +kernel
theorem dX7_now_118 : decode cX7_now 118 = .ok (.ldc2_w 144, 3) := by decide +kernel
theorem dX7_now_121 : decode cX7_now 121 = .ok (.goto 8, 3) := by decide +kernel
theorem dX7_now_124 : decode cX7_now 124 = .ok (.aload_n 2, 1) := by decide +kernel
theorem dX7_now_125 : decode cX7_now 125 = .ok (.getfield 192, 3) := by decide +kernel
theorem dX7_now_128 : decode cX7_now 128 = .ok (.i2l, 1) := by decide +kernel
theorem dX7_now_129 : decode cX7_now 129 = .ok (.lreturn, 1) := by decide +kernel
theorem dX7_now_130 : decode cX7_now 130 = .ok (.aload_n 2, 1) := by decide +kernel
theorem dX7_now_131 : decode cX7_now 131 = .ok (.ifnonnull 7, 3) := by decide +kernel
theorem dX7_now_134 : decode cX7_now 134 = .ok (.lconst 0, 1) := by decide +kernel
theorem dX7_now_135 : decode cX7_now 135 = .ok (.goto 8, 3) := by decide +kernel
theorem dX7_now_138 : decode cX7_now 138 = .ok (.aload_n 2, 1) := by decide +kernel
theorem dX7_now_139 : decode cX7_now 139 = .ok (.getfield 119, 3) := by decide +kernel
theorem dX7_now_142 : decode cX7_now 142 = .ok (.i2l, 1) := by decide +kernel
theorem dX7_now_143 : decode cX7_now 143 = .ok (.lreturn, 1) := by decide +kernel
theorem dX7_now_144 : decode cX7_now 144 = .ok (.aload_n 0, 1) := by decide +kernel
theorem dX7_now_145 : decode cX7_now 145 = .ok (.getfield 37, 3) := by decide +kernel
theorem dX7_now_148 : decode cX7_now 148 = .ok (.getfield 195, 3) := by decide +kernel
theorem dX7_now_151 : decode cX7_now 151 = .ok (.iload_n 1, 1) := by decide +kernel
theorem dX7_now_152 : decode cX7_now 152 = .ok (.invokevirtual 163, 3) := by decide +kernel
theorem dX7_now_155 : decode cX7_now 155 = .ok (.lreturn, 1) := by decide +kernel
theorem dX7_badness_0 : decode cX7_badness 0 = .ok (.iload_n 1, 1) := by decide +kernel
theorem dX7_badness_1 : decode cX7_badness 1 = .ok (.ifCond .lt 7, 3) := by decide +kernel
theorem dX7_badness_4 : decode cX7_badness 4 = .ok (.iload_n 2, 1) := by decide +kernel
theorem dX7_badness_5 : decode cX7_badness 5 = .ok (.ifCond .ge 5, 3) := by decide +kernel
theorem dX7_badness_8 : decode cX7_badness 8 = .ok (.iconst (-1), 1) := by decide +kernel
theorem dX7_badness_9 : decode cX7_badness 9 = .ok (.ireturn, 1) := by decide +kernel
theorem dX7_badness_10 : decode cX7_badness 10 = .ok (.iload_n 1, 1) := by decide +kernel
theorem dX7_badness_11 : decode cX7_badness 11 = .ok (.i2l, 1) := by decide +kernel
theorem dX7_badness_12 : decode cX7_badness 12 = .ok (.iload_n 2, 1) := by decide +kernel
theorem dX7_badness_13 : decode cX7_badness 13 = .ok (.i2l, 1) := by decide +kernel
theorem dX7_badness_14 : decode cX7_badness 14 = .ok (.invokestatic 196, 3) := by decide +kernel
theorem dX7_badness_17 : decode cX7_badness 17 = .ok (.ireturn, 1) := by decide +kernel
theorem dX7_count_0 : decode cX7_count 0 = .ok (.iload_n 1, 1) := by decide +kernel
theorem dX7_count_1 : decode cX7_count 1 = .ok (.tableswitch 42 0 2 #[27, 32, 37], 27) := by decide +kernel
theorem dX7_count_28 : decode cX7_count 28 = .ok (.aload_n 0, 1) := by decide +kernel
theorem dX7_count_29 : decode cX7_count 29 = .ok (.getfield 70, 3) := by decide +kernel
theorem dX7_count_32 : decode cX7_count 32 = .ok (.ireturn, 1) := by decide +kernel
theorem dX7_count_33 : decode cX7_count 33 = .ok (.aload_n 0, 1) := by decide +kernel
theorem dX7_count_34 : decode cX7_count 34 = .ok (.getfield 63, 3) := by decide +kernel
theorem dX7_count_37 : decode cX7_count 37 = .ok (.ireturn, 1) := by decide +kernel
theorem dX7_count_38 : decode cX7_count 38 = .ok (.aload_n 0, 1) := by decide +kernel
theorem dX7_count_39 : decode cX7_count 39 = .ok (.getfield 125, 3) := by decide +kernel
theorem dX7_count_42 : decode cX7_count 42 = .ok (.ireturn, 1) := by decide +kernel
theorem dX7_count_43 : decode cX7_count 43 = .ok (.iconst (-1), 1) := by decide +kernel
theorem dX7_count_44 : decode cX7_count 44 = .ok (.ireturn, 1) := by decide +kernel
theorem dX7_check_0 : decode cX7_check 0 = .ok (.iconst 0, 1) := by decide +kernel
theorem dX7_check_1 : decode cX7_check 1 = .ok (.istore_n 1, 1) := by decide +kernel
theorem dX7_check_2 : decode cX7_check 2 = .ok (.iload_n 1, 1) := by decide +kernel
theorem dX7_check_3 : decode cX7_check 3 = .ok (.aload_n 0, 1) := by decide +kernel
theorem dX7_check_4 : decode cX7_check 4 = .ok (.getfield 70, 3) := by decide +kernel
theorem dX7_check_7 : decode cX7_check 7 = .ok (.if_icmp .ge 18, 3) := by decide +kernel
theorem dX7_check_10 : decode cX7_check 10 = .ok (.aload_n 0, 1) := by decide +kernel
theorem dX7_check_11 : decode cX7_check 11 = .ok (.getfield 11, 3) := by decide +kernel
theorem dX7_check_14 : decode cX7_check 14 = .ok (.iload_n 1, 1) := by decide +kernel
theorem dX7_check_15 : decode cX7_check 15 = .ok (.aaload, 1) := by decide +kernel
theorem dX7_check_16 : decode cX7_check 16 = .ok (.invokevirtual 200, 3) := by decide +kernel
theorem dX7_check_19 : decode cX7_check 19 = .ok (.iinc 1 1, 3) := by decide +kernel
theorem dX7_check_22 : decode cX7_check 22 = .ok (.goto (-20), 3) := by decide +kernel
theorem dX7_check_25 : decode cX7_check 25 = .ok (.aload_n 0, 1) := by decide +kernel
theorem dX7_check_26 : decode cX7_check 26 = .ok (.invokevirtual 203, 3) := by decide +kernel
theorem dX7_check_29 : decode cX7_check 29 = .ok (.iconst 0, 1) := by decide +kernel
theorem dX7_check_30 : decode cX7_check 30 = .ok (.istore_n 1, 1) := by decide +kernel
theorem dX7_check_31 : decode cX7_check 31 = .ok (.iload_n 1, 1) := by decide +kernel
theorem dX7_check_32 : decode cX7_check 32 = .ok (.aload_n 0, 1) := by decide +kernel
theorem dX7_check_33 : decode cX7_check 33 = .ok (.getfield 37, 3) := by decide +kernel
theorem dX7_check_36 : decode cX7_check 36 = .ok (.getfield 60, 3) := by decide +kernel
theorem dX7_check_39 : decode cX7_check 39 = .ok (.if_icmp .ge 27, 3) := by decide +kernel
theorem dX7_check_42 : decode cX7_check 42 = .ok (.aload_n 0, 1) := by decide +kernel
theorem dX7_check_43 : decode cX7_check 43 = .ok (.getfield 37, 3) := by decide +kernel
theorem dX7_check_46 : decode cX7_check 46 = .ok (.getfield 206, 3) := by decide +kernel
theorem dX7_check_49 : decode cX7_check 49 = .ok (.iload_n 1, 1) := by decide +kernel
theorem dX7_check_50 : decode cX7_check 50 = .ok (.aaload, 1) := by decide +kernel
theorem dX7_check_51 : decode cX7_check 51 = .ok (.dup, 1) := by decide +kernel
theorem dX7_check_52 : decode cX7_check 52 = .ok (.getfield 207, 3) := by decide +kernel
theorem dX7_check_55 : decode cX7_check 55 = .ok (.iconst 1, 1) := by decide +kernel
theorem dX7_check_56 : decode cX7_check 56 = .ok (.iadd, 1) := by decide +kernel
theorem dX7_check_57 : decode cX7_check 57 = .ok (.putfield 207, 3) := by decide +kernel
theorem dX7_check_60 : decode cX7_check 60 = .ok (.iinc 1 1, 3) := by decide +kernel
theorem dX7_check_63 : decode cX7_check 63 = .ok (.goto (-32), 3) := by decide +kernel
theorem dX7_check_66 : decode cX7_check 66 = .ok (.iconst 0, 1) := by decide +kernel
theorem dX7_check_67 : decode cX7_check 67 = .ok (.istore_n 1, 1) := by decide +kernel
theorem dX7_check_68 : decode cX7_check 68 = .ok (.iload_n 1, 1) := by decide +kernel
theorem dX7_check_69 : decode cX7_check 69 = .ok (.aload_n 0, 1) := by decide +kernel
theorem dX7_check_70 : decode cX7_check 70 = .ok (.getfield 30, 3) := by decide +kernel
theorem dX7_check_73 : decode cX7_check 73 = .ok (.getfield 191, 3) := by decide +kernel
theorem dX7_check_76 : decode cX7_check 76 = .ok (.if_icmp .ge 32, 3) := by decide +kernel
theorem dX7_check_79 : decode cX7_check 79 = .ok (.aload_n 0, 1) := by decide +kernel
theorem dX7_check_80 : decode cX7_check 80 = .ok (.getfield 30, 3) := by decide +kernel
theorem dX7_check_83 : decode cX7_check 83 = .ok (.iload_n 1, 1) := by decide +kernel
theorem dX7_check_84 : decode cX7_check 84 = .ok (.invokevirtual 183, 3) := by decide +kernel
theorem dX7_check_87 : decode cX7_check 87 = .ok (.astore_n 2, 1) := by decide +kernel
theorem dX7_check_88 : decode cX7_check 88 = .ok (.aload_n 2, 1) := by decide +kernel
theorem dX7_check_89 : decode cX7_check 89 = .ok (.ifnull 13, 3) := by decide +kernel
theorem dX7_check_92 : decode cX7_check 92 = .ok (.aload_n 2, 1) := by decide +kernel
theorem dX7_check_93 : decode cX7_check 93 = .ok (.dup, 1) := by decide +kernel
theorem dX7_check_94 : decode cX7_check 94 = .ok (.getfield 207, 3) := by decide +kernel
theorem dX7_check_97 : decode cX7_check 97 = .ok (.iconst 1, 1) := by decide +kernel
theorem dX7_check_98 : decode cX7_check 98 = .ok (.iadd, 1) := by decide +kernel
theorem dX7_check_99 : decode cX7_check 99 = .ok (.putfield 207, 3) := by decide +kernel
theorem dX7_check_102 : decode cX7_check 102 = .ok (.iinc 1 1, 3) := by decide +kernel
theorem dX7_check_105 : decode cX7_check 105 = .ok (.goto (-37), 3) := by decide +kernel
theorem dX7_check_108 : decode cX7_check 108 = .ok (.iconst 0, 1) := by decide +kernel
theorem dX7_check_109 : decode cX7_check 109 = .ok (.istore_n 1, 1) := by decide +kernel
theorem dX7_check_110 : decode cX7_check 110 = .ok (.iload_n 1, 1) := by decide +kernel
theorem dX7_check_111 : decode cX7_check 111 = .ok (.aload_n 0, 1) := by decide +kernel
theorem dX7_check_112 : decode cX7_check 112 = .ok (.getfield 70, 3) := by decide +kernel
theorem dX7_check_115 : decode cX7_check 115 = .ok (.if_icmp .ge 23, 3) := by decide +kernel
theorem dX7_check_118 : decode cX7_check 118 = .ok (.aload_n 0, 1) := by decide +kernel
theorem dX7_check_119 : decode cX7_check 119 = .ok (.getfield 11, 3) := by decide +kernel
theorem dX7_check_122 : decode cX7_check 122 = .ok (.iload_n 1, 1) := by decide +kernel
theorem dX7_check_123 : decode cX7_check 123 = .ok (.aaload, 1) := by decide +kernel
theorem dX7_check_124 : decode cX7_check 124 = .ok (.invokevirtual 210, 3) := by decide +kernel
theorem dX7_check_127 : decode cX7_check 127 = .ok (.ifCond .ne 5, 3) := by decide +kernel
theorem dX7_check_130 : decode cX7_check 130 = .ok (.iconst 0, 1) := by decide +kernel
theorem dX7_check_131 : decode cX7_check 131 = .ok (.ireturn, 1) := by decide +kernel
theorem dX7_check_132 : decode cX7_check 132 = .ok (.iinc 1 1, 3) := by decide +kernel
theorem dX7_check_135 : decode cX7_check 135 = .ok (.goto (-25), 3) := by decide +kernel
theorem dX7_check_138 : decode cX7_check 138 = .ok (.iconst 1, 1) := by decide +kernel
theorem dX7_check_139 : decode cX7_check 139 = .ok (.ireturn, 1) := by decide +kernel
theorem dX7_tallyPages_0 : decode cX7_tallyPages 0 = .ok (.iconst 0, 1) := by decide +kernel
theorem dX7_tallyPages_1 : decode cX7_tallyPages 1 = .ok (.istore_n 1, 1) := by decide +kernel
theorem dX7_tallyPages_2 : decode cX7_tallyPages 2 = .ok (.iload_n 1, 1) := by decide +kernel
theorem dX7_tallyPages_3 : decode cX7_tallyPages 3 = .ok (.aload_n 0, 1) := by decide +kernel
theorem dX7_tallyPages_4 : decode cX7_tallyPages 4 = .ok (.getfield 125, 3) := by decide +kernel
theorem dX7_tallyPages_7 : decode cX7_tallyPages 7 = .ok (.if_icmp .ge 72, 3) := by decide +kernel
theorem dX7_tallyPages_10 : decode cX7_tallyPages 10 = .ok (.aload_n 0, 1) := by decide +kernel
theorem dX7_tallyPages_11 : decode cX7_tallyPages 11 = .ok (.getfield 23, 3) := by decide +kernel
theorem dX7_tallyPages_14 : decode cX7_tallyPages 14 = .ok (.iload_n 1, 1) := by decide +kernel
theorem dX7_tallyPages_15 : decode cX7_tallyPages 15 = .ok (.aaload, 1) := by decide +kernel
theorem dX7_tallyPages_16 : decode cX7_tallyPages 16 = .ok (.astore_n 2, 1) := by decide +kernel
theorem dX7_tallyPages_17 : decode cX7_tallyPages 17 = .ok (.iconst 0, 1) := by decide +kernel
theorem dX7_tallyPages_18 : decode cX7_tallyPages 18 = .ok (.istore_n 3, 1) := by decide +kernel
theorem dX7_tallyPages_19 : decode cX7_tallyPages 19 = .ok (.iload_n 3, 1) := by decide +kernel
theorem dX7_tallyPages_20 : decode cX7_tallyPages 20 = .ok (.aload_n 2, 1) := by decide +kernel
theorem dX7_tallyPages_21 : decode cX7_tallyPages 21 = .ok (.getfield 137, 3) := by decide +kernel
theorem dX7_tallyPages_24 : decode cX7_tallyPages 24 = .ok (.arraylength, 1) := by decide +kernel
theorem dX7_tallyPages_25 : decode cX7_tallyPages 25 = .ok (.if_icmp .ge 48, 3) := by decide +kernel
theorem dX7_tallyPages_28 : decode cX7_tallyPages 28 = .ok (.aload_n 2, 1) := by decide +kernel
theorem dX7_tallyPages_29 : decode cX7_tallyPages 29 = .ok (.getfield 137, 3) := by decide +kernel
theorem dX7_tallyPages_32 : decode cX7_tallyPages 32 = .ok (.iload_n 3, 1) := by decide +kernel
theorem dX7_tallyPages_33 : decode cX7_tallyPages 33 = .ok (.iaload, 1) := by decide +kernel
theorem dX7_tallyPages_34 : decode cX7_tallyPages 34 = .ok (.istore 4, 2) := by decide +kernel
theorem dX7_tallyPages_36 : decode cX7_tallyPages 36 = .ok (.iload 4, 2) := by decide +kernel
theorem dX7_tallyPages_38 : decode cX7_tallyPages 38 = .ok (.iconst 0, 1) := by decide +kernel
theorem dX7_tallyPages_39 : decode cX7_tallyPages 39 = .ok (.aload_n 0, 1) := by decide +kernel
theorem dX7_tallyPages_40 : decode cX7_tallyPages 40 = .ok (.getfield 70, 3) := by decide +kernel
theorem dX7_tallyPages_43 : decode cX7_tallyPages 43 = .ok (.iconst 1, 1) := by decide +kernel
theorem dX7_tallyPages_44 : decode cX7_tallyPages 44 = .ok (.isub, 1) := by decide +kernel
theorem dX7_tallyPages_45 : decode cX7_tallyPages 45 = .ok (.invokestatic 56, 3) := by decide +kernel
theorem dX7_tallyPages_48 : decode cX7_tallyPages 48 = .ok (.ifCond .eq 19, 3) := by decide +kernel
theorem dX7_tallyPages_51 : decode cX7_tallyPages 51 = .ok (.aload_n 0, 1) := by decide +kernel
theorem dX7_tallyPages_52 : decode cX7_tallyPages 52 = .ok (.getfield 11, 3) := by decide +kernel
theorem dX7_tallyPages_55 : decode cX7_tallyPages 55 = .ok (.iload 4, 2) := by decide +kernel
theorem dX7_tallyPages_57 : decode cX7_tallyPages 57 = .ok (.aaload, 1) := by decide +kernel
theorem dX7_tallyPages_58 : decode cX7_tallyPages 58 = .ok (.aload_n 2, 1) := by decide +kernel
theorem dX7_tallyPages_59 : decode cX7_tallyPages 59 = .ok (.getfield 141, 3) := by decide +kernel
theorem dX7_tallyPages_62 : decode cX7_tallyPages 62 = .ok (.iload_n 3, 1) := by decide +kernel
theorem dX7_tallyPages_63 : decode cX7_tallyPages 63 = .ok (.iaload, 1) := by decide +kernel
theorem dX7_tallyPages_64 : decode cX7_tallyPages 64 = .ok (.invokevirtual 213, 3) := by decide +kernel
theorem dX7_tallyPages_67 : decode cX7_tallyPages 67 = .ok (.iinc 3 1, 3) := by decide +kernel
theorem dX7_tallyPages_70 : decode cX7_tallyPages 70 = .ok (.goto (-51), 3) := by decide +kernel
theorem dX7_tallyPages_73 : decode cX7_tallyPages 73 = .ok (.iinc 1 1, 3) := by decide +kernel
theorem dX7_tallyPages_76 : decode cX7_tallyPages 76 = .ok (.goto (-74), 3) := by decide +kernel
theorem dX7_tallyPages_79 : decode cX7_tallyPages 79 = .ok (.return_, 1) := by decide +kernel
theorem dX7_within_0 : decode cX7_within 0 = .ok (.iload_n 0, 1) := by decide +kernel
theorem dX7_within_1 : decode cX7_within 1 = .ok (.iload_n 1, 1) := by decide +kernel
theorem dX7_within_2 : decode cX7_within 2 = .ok (.if_icmp .lt 12, 3) := by decide +kernel
theorem dX7_within_5 : decode cX7_within 5 = .ok (.iload_n 0, 1) := by decide +kernel
theorem dX7_within_6 : decode cX7_within 6 = .ok (.iload_n 2, 1) := by decide +kernel
theorem dX7_within_7 : decode cX7_within 7 = .ok (.if_icmp .gt 7, 3) := by decide +kernel
theorem dX7_within_10 : decode cX7_within 10 = .ok (.iconst 1, 1) := by decide +kernel
theorem dX7_within_11 : decode cX7_within 11 = .ok (.goto 4, 3) := by decide +kernel
theorem dX7_within_14 : decode cX7_within 14 = .ok (.iconst 0, 1) := by decide +kernel
theorem dX7_within_15 : decode cX7_within 15 = .ok (.ireturn, 1) := by decide +kernel
theorem dX7_addToLine_0 : decode cX7_addToLine 0 = .ok (.aload_n 0, 1) := by decide +kernel
theorem dX7_addToLine_1 : decode cX7_addToLine 1 = .ok (.getfield 11, 3) := by decide +kernel
theorem dX7_addToLine_4 : decode cX7_addToLine 4 = .ok (.aload_n 0, 1) := by decide +kernel
theorem dX7_addToLine_5 : decode cX7_addToLine 5 = .ok (.getfield 70, 3) := by decide +kernel
theorem dX7_addToLine_8 : decode cX7_addToLine 8 = .ok (.aload_n 1, 1) := by decide +kernel
theorem dX7_addToLine_9 : decode cX7_addToLine 9 = .ok (.aastore, 1) := by decide +kernel
theorem dX7_addToLine_10 : decode cX7_addToLine 10 = .ok (.aload_n 0, 1) := by decide +kernel
theorem dX7_addToLine_11 : decode cX7_addToLine 11 = .ok (.dup, 1) := by decide +kernel
theorem dX7_addToLine_12 : decode cX7_addToLine 12 = .ok (.getfield 70, 3) := by decide +kernel
theorem dX7_addToLine_15 : decode cX7_addToLine 15 = .ok (.iconst 1, 1) := by decide +kernel
theorem dX7_addToLine_16 : decode cX7_addToLine 16 = .ok (.iadd, 1) := by decide +kernel
theorem dX7_addToLine_17 : decode cX7_addToLine 17 = .ok (.putfield 70, 3) := by decide +kernel
theorem dX7_addToLine_20 : decode cX7_addToLine 20 = .ok (.aload_n 0, 1) := by decide +kernel
theorem dX7_addToLine_21 : decode cX7_addToLine 21 = .ok (.getfield 30, 3) := by decide +kernel
theorem dX7_addToLine_24 : decode cX7_addToLine 24 = .ok (.aload_n 1, 1) := by decide +kernel
theorem dX7_addToLine_25 : decode cX7_addToLine 25 = .ok (.invokevirtual 217, 3) := by decide +kernel
theorem dX7_addToLine_28 : decode cX7_addToLine 28 = .ok (.aload_n 1, 1) := by decide +kernel
theorem dX7_addToLine_29 : decode cX7_addToLine 29 = .ok (.getfield 192, 3) := by decide +kernel
theorem dX7_addToLine_32 : decode cX7_addToLine 32 = .ok (.ireturn, 1) := by decide +kernel
theorem dX7_endedPage_0 : decode cX7_endedPage 0 = .ok (.iload_n 1, 1) := by decide +kernel
theorem dX7_endedPage_1 : decode cX7_endedPage 1 = .ok (.iconst 0, 1) := by decide +kernel
theorem dX7_endedPage_2 : decode cX7_endedPage 2 = .ok (.aload_n 0, 1) := by decide +kernel
theorem dX7_endedPage_3 : decode cX7_endedPage 3 = .ok (.getfield 125, 3) := by decide +kernel
theorem dX7_endedPage_6 : decode cX7_endedPage 6 = .ok (.iconst 1, 1) := by decide +kernel
theorem dX7_endedPage_7 : decode cX7_endedPage 7 = .ok (.isub, 1) := by decide +kernel
theorem dX7_endedPage_8 : decode cX7_endedPage 8 = .ok (.invokestatic 56, 3) := by decide +kernel
theorem dX7_endedPage_11 : decode cX7_endedPage 11 = .ok (.ifCond .eq 12, 3) := by decide +kernel
theorem dX7_endedPage_14 : decode cX7_endedPage 14 = .ok (.aload_n 0, 1) := by decide +kernel
theorem dX7_endedPage_15 : decode cX7_endedPage 15 = .ok (.getfield 23, 3) := by decide +kernel
theorem dX7_endedPage_18 : decode cX7_endedPage 18 = .ok (.iload_n 1, 1) := by decide +kernel
theorem dX7_endedPage_19 : decode cX7_endedPage 19 = .ok (.aaload, 1) := by decide +kernel
theorem dX7_endedPage_20 : decode cX7_endedPage 20 = .ok (.goto 4, 3) := by decide +kernel
theorem dX7_endedPage_23 : decode cX7_endedPage 23 = .ok (.aconst_null, 1) := by decide +kernel
theorem dX7_endedPage_24 : decode cX7_endedPage 24 = .ok (.areturn, 1) := by decide +kernel
theorem dX7_takeStep_0 : decode cX7_takeStep 0 = .ok (.aload_n 0, 1) := by decide +kernel
theorem dX7_takeStep_1 : decode cX7_takeStep 1 = .ok (.getfield 30, 3) := by decide +kernel
theorem dX7_takeStep_4 : decode cX7_takeStep 4 = .ok (.iconst 0, 1) := by decide +kernel
theorem dX7_takeStep_5 : decode cX7_takeStep 5 = .ok (.invokevirtual 183, 3) := by decide +kernel
theorem dX7_takeStep_8 : decode cX7_takeStep 8 = .ok (.astore_n 1, 1) := by decide +kernel
theorem dX7_takeStep_9 : decode cX7_takeStep 9 = .ok (.aload_n 1, 1) := by decide +kernel
theorem dX7_takeStep_10 : decode cX7_takeStep 10 = .ok (.ifnull 12, 3) := by decide +kernel
theorem dX7_takeStep_13 : decode cX7_takeStep 13 = .ok (.aload_n 0, 1) := by decide +kernel
theorem dX7_takeStep_14 : decode cX7_takeStep 14 = .ok (.getfield 125, 3) := by decide +kernel
theorem dX7_takeStep_17 : decode cX7_takeStep 17 = .ok (.bipush 60, 2) := by decide +kernel
theorem dX7_takeStep_19 : decode cX7_takeStep 19 = .ok (.if_icmp .lt 5, 3) := by decide +kernel
theorem dX7_takeStep_22 : decode cX7_takeStep 22 = .ok (.iconst 0, 1) := by decide +kernel
theorem dX7_takeStep_23 : decode cX7_takeStep 23 = .ok (.ireturn, 1) := by decide +kernel
theorem dX7_takeStep_24 : decode cX7_takeStep 24 = .ok (.aload_n 0, 1) := by decide +kernel
theorem dX7_takeStep_25 : decode cX7_takeStep 25 = .ok (.getfield 37, 3) := by decide +kernel
theorem dX7_takeStep_28 : decode cX7_takeStep 28 = .ok (.getfield 221, 3) := by decide +kernel
theorem dX7_takeStep_31 : decode cX7_takeStep 31 = .ok (.ifCond .ne 19, 3) := by decide +kernel
theorem dX7_takeStep_34 : decode cX7_takeStep 34 = .ok (.aload_n 1, 1) := by decide +kernel
theorem dX7_takeStep_35 : decode cX7_takeStep 35 = .ok (.getfield 224, 3) := by decide +kernel
theorem dX7_takeStep_38 : decode cX7_takeStep 38 = .ok (.getfield 227, 3) := by decide +kernel
theorem dX7_takeStep_41 : decode cX7_takeStep 41 = .ok (.ifCond .eq 9, 3) := by decide +kernel
theorem dX7_takeStep_44 : decode cX7_takeStep 44 = .ok (.aload_n 0, 1) := by decide +kernel
theorem dX7_takeStep_45 : decode cX7_takeStep 45 = .ok (.invokevirtual 230, 3) := by decide +kernel
theorem dX7_takeStep_48 : decode cX7_takeStep 48 = .ok (.iconst 1, 1) := by decide +kernel
theorem dX7_takeStep_49 : decode cX7_takeStep 49 = .ok (.ireturn, 1) := by decide +kernel
theorem dX7_takeStep_50 : decode cX7_takeStep 50 = .ok (.aload_n 0, 1) := by decide +kernel
theorem dX7_takeStep_51 : decode cX7_takeStep 51 = .ok (.getfield 30, 3) := by decide +kernel
theorem dX7_takeStep_54 : decode cX7_takeStep 54 = .ok (.iconst 1, 1) := by decide +kernel
theorem dX7_takeStep_55 : decode cX7_takeStep 55 = .ok (.invokevirtual 183, 3) := by decide +kernel
theorem dX7_takeStep_58 : decode cX7_takeStep 58 = .ok (.astore_n 2, 1) := by decide +kernel
theorem dX7_takeStep_59 : decode cX7_takeStep 59 = .ok (.aload_n 1, 1) := by decide +kernel
theorem dX7_takeStep_60 : decode cX7_takeStep 60 = .ok (.getfield 224, 3) := by decide +kernel
theorem dX7_takeStep_63 : decode cX7_takeStep 63 = .ok (.getstatic 102, 3) := by decide +kernel
theorem dX7_takeStep_66 : decode cX7_takeStep 66 = .ok (.if_acmp .ne 9, 3) := by decide +kernel
theorem dX7_takeStep_69 : decode cX7_takeStep 69 = .ok (.aload_n 2, 1) := by decide +kernel
theorem dX7_takeStep_70 : decode cX7_takeStep 70 = .ok (.ifnonnull 5, 3) := by decide +kernel
theorem dX7_takeStep_73 : decode cX7_takeStep 73 = .ok (.iconst 0, 1) := by decide +kernel
theorem dX7_takeStep_74 : decode cX7_takeStep 74 = .ok (.ireturn, 1) := by decide +kernel
theorem dX7_takeStep_75 : decode cX7_takeStep 75 = .ok (.aload_n 0, 1) := by decide +kernel
theorem dX7_takeStep_76 : decode cX7_takeStep 76 = .ok (.getfield 37, 3) := by decide +kernel
theorem dX7_takeStep_79 : decode cX7_takeStep 79 = .ok (.aload_n 1, 1) := by decide +kernel
theorem dX7_takeStep_80 : decode cX7_takeStep 80 = .ok (.aload_n 2, 1) := by decide +kernel
theorem dX7_takeStep_81 : decode cX7_takeStep 81 = .ok (.invokevirtual 233, 3) := by decide +kernel
theorem dX7_takeStep_84 : decode cX7_takeStep 84 = .ok (.ifCond .eq 23, 3) := by decide +kernel
theorem dX7_takeStep_87 : decode cX7_takeStep 87 = .ok (.aload_n 0, 1) := by decide +kernel
theorem dX7_takeStep_88 : decode cX7_takeStep 88 = .ok (.getfield 37, 3) := by decide +kernel
theorem dX7_takeStep_91 : decode cX7_takeStep 91 = .ok (.aload_n 1, 1) := by decide +kernel
theorem dX7_takeStep_92 : decode cX7_takeStep 92 = .ok (.invokevirtual 237, 3) := by decide +kernel
theorem dX7_takeStep_95 : decode cX7_takeStep 95 = .ok (.invokevirtual 240, 3) := by decide +kernel
theorem dX7_takeStep_98 : decode cX7_takeStep 98 = .ok (.ifCond .eq 9, 3) := by decide +kernel
theorem dX7_takeStep_101 : decode cX7_takeStep 101 = .ok (.aload_n 0, 1) := by decide +kernel
theorem dX7_takeStep_102 : decode cX7_takeStep 102 = .ok (.invokevirtual 244, 3) := by decide +kernel
theorem dX7_takeStep_105 : decode cX7_takeStep 105 = .ok (.iconst 1, 1) := by decide +kernel
theorem dX7_takeStep_106 : decode cX7_takeStep 106 = .ok (.ireturn, 1) := by decide +kernel
theorem dX7_takeStep_107 : decode cX7_takeStep 107 = .ok (.aload_n 0, 1) := by decide +kernel
theorem dX7_takeStep_108 : decode cX7_takeStep 108 = .ok (.getfield 30, 3) := by decide +kernel
theorem dX7_takeStep_111 : decode cX7_takeStep 111 = .ok (.invokevirtual 247, 3) := by decide +kernel
theorem dX7_takeStep_114 : decode cX7_takeStep 114 = .ok (.pop, 1) := by decide +kernel
theorem dX7_takeStep_115 : decode cX7_takeStep 115 = .ok (.aload_n 0, 1) := by decide +kernel
theorem dX7_takeStep_116 : decode cX7_takeStep 116 = .ok (.getfield 37, 3) := by decide +kernel
theorem dX7_takeStep_119 : decode cX7_takeStep 119 = .ok (.aload_n 1, 1) := by decide +kernel
theorem dX7_takeStep_120 : decode cX7_takeStep 120 = .ok (.invokevirtual 251, 3) := by decide +kernel
theorem dX7_takeStep_123 : decode cX7_takeStep 123 = .ok (.iconst 1, 1) := by decide +kernel
theorem dX7_takeStep_124 : decode cX7_takeStep 124 = .ok (.ireturn, 1) := by decide +kernel
theorem dX7_dropFirst_0 : decode cX7_dropFirst 0 = .ok (.aload_n 0, 1) := by decide +kernel
theorem dX7_dropFirst_1 : decode cX7_dropFirst 1 = .ok (.getfield 30, 3) := by decide +kernel
theorem dX7_dropFirst_4 : decode cX7_dropFirst 4 = .ok (.invokevirtual 247, 3) := by decide +kernel
theorem dX7_dropFirst_7 : decode cX7_dropFirst 7 = .ok (.astore_n 1, 1) := by decide +kernel
theorem dX7_dropFirst_8 : decode cX7_dropFirst 8 = .ok (.aload_n 1, 1) := by decide +kernel
theorem dX7_dropFirst_9 : decode cX7_dropFirst 9 = .ok (.ifnull 8, 3) := by decide +kernel
theorem dX7_dropFirst_12 : decode cX7_dropFirst 12 = .ok (.aload_n 1, 1) := by decide +kernel
theorem dX7_dropFirst_13 : decode cX7_dropFirst 13 = .ok (.iconst 1, 1) := by decide +kernel
theorem dX7_dropFirst_14 : decode cX7_dropFirst 14 = .ok (.putfield 254, 3) := by decide +kernel
theorem dX7_dropFirst_17 : decode cX7_dropFirst 17 = .ok (.return_, 1) := by decide +kernel
theorem dX7_endPage_0 : decode cX7_endPage 0 = .ok (.aload_n 0, 1) := by decide +kernel
theorem dX7_endPage_1 : decode cX7_endPage 1 = .ok (.aload_n 0, 1) := by decide +kernel
theorem dX7_endPage_2 : decode cX7_endPage 2 = .ok (.getfield 125, 3) := by decide +kernel
theorem dX7_endPage_5 : decode cX7_endPage 5 = .ok (.iconst 1, 1) := by decide +kernel
theorem dX7_endPage_6 : decode cX7_endPage 6 = .ok (.isub, 1) := by decide +kernel
theorem dX7_endPage_7 : decode cX7_endPage 7 = .ok (.invokevirtual 133, 3) := by decide +kernel
theorem dX7_endPage_10 : decode cX7_endPage 10 = .ok (.astore_n 1, 1) := by decide +kernel
theorem dX7_endPage_11 : decode cX7_endPage 11 = .ok (.aload_n 0, 1) := by decide +kernel
theorem dX7_endPage_12 : decode cX7_endPage 12 = .ok (.getfield 23, 3) := by decide +kernel
theorem dX7_endPage_15 : decode cX7_endPage 15 = .ok (.aload_n 0, 1) := by decide +kernel
theorem dX7_endPage_16 : decode cX7_endPage 16 = .ok (.getfield 125, 3) := by decide +kernel
theorem dX7_endPage_19 : decode cX7_endPage 19 = .ok (.new 21, 3) := by decide +kernel
theorem dX7_endPage_22 : decode cX7_endPage 22 = .ok (.dup, 1) := by decide +kernel
theorem dX7_endPage_23 : decode cX7_endPage 23 = .ok (.aload_n 0, 1) := by decide +kernel
theorem dX7_endPage_24 : decode cX7_endPage 24 = .ok (.getfield 37, 3) := by decide +kernel
theorem dX7_endPage_27 : decode cX7_endPage 27 = .ok (.aload_n 1, 1) := by decide +kernel
theorem dX7_endPage_28 : decode cX7_endPage 28 = .ok (.ifnonnull 7, 3) := by decide +kernel
theorem dX7_endPage_31 : decode cX7_endPage 31 = .ok (.iconst 0, 1) := by decide +kernel
theorem dX7_endPage_32 : decode cX7_endPage 32 = .ok (.goto 7, 3) := by decide +kernel
theorem dX7_endPage_35 : decode cX7_endPage 35 = .ok (.aload_n 1, 1) := by decide +kernel
theorem dX7_endPage_36 : decode cX7_endPage 36 = .ok (.getfield 180, 3) := by decide +kernel
theorem dX7_endPage_39 : decode cX7_endPage 39 = .ok (.invokespecial 257, 3) := by decide +kernel
theorem dX7_endPage_42 : decode cX7_endPage 42 = .ok (.aastore, 1) := by decide +kernel
theorem dX7_endPage_43 : decode cX7_endPage 43 = .ok (.aload_n 0, 1) := by decide +kernel
theorem dX7_endPage_44 : decode cX7_endPage 44 = .ok (.dup, 1) := by decide +kernel
theorem dX7_endPage_45 : decode cX7_endPage 45 = .ok (.getfield 125, 3) := by decide +kernel
theorem dX7_endPage_48 : decode cX7_endPage 48 = .ok (.iconst 1, 1) := by decide +kernel
theorem dX7_endPage_49 : decode cX7_endPage 49 = .ok (.iadd, 1) := by decide +kernel
theorem dX7_endPage_50 : decode cX7_endPage 50 = .ok (.putfield 125, 3) := by decide +kernel
theorem dX7_endPage_53 : decode cX7_endPage 53 = .ok (.aload_n 0, 1) := by decide +kernel
theorem dX7_endPage_54 : decode cX7_endPage 54 = .ok (.invokevirtual 260, 3) := by decide +kernel
theorem dX7_endPage_57 : decode cX7_endPage 57 = .ok (.aload_n 0, 1) := by decide +kernel
theorem dX7_endPage_58 : decode cX7_endPage 58 = .ok (.invokevirtual 263, 3) := by decide +kernel
theorem dX7_endPage_61 : decode cX7_endPage 61 = .ok (.aload_n 0, 1) := by decide +kernel
theorem dX7_endPage_62 : decode cX7_endPage 62 = .ok (.getfield 37, 3) := by decide +kernel
theorem dX7_endPage_65 : decode cX7_endPage 65 = .ok (.aload_n 0, 1) := by decide +kernel
theorem dX7_endPage_66 : decode cX7_endPage 66 = .ok (.getfield 41, 3) := by decide +kernel
theorem dX7_endPage_69 : decode cX7_endPage 69 = .ok (.aload_n 0, 1) := by decide +kernel
theorem dX7_endPage_70 : decode cX7_endPage 70 = .ok (.getfield 45, 3) := by decide +kernel
theorem dX7_endPage_73 : decode cX7_endPage 73 = .ok (.aload_n 0, 1) := by decide +kernel
theorem dX7_endPage_74 : decode cX7_endPage 74 = .ok (.getfield 48, 3) := by decide +kernel
theorem dX7_endPage_77 : decode cX7_endPage 77 = .ok (.invokevirtual 51, 3) := by decide +kernel
theorem dX7_endPage_80 : decode cX7_endPage 80 = .ok (.return_, 1) := by decide +kernel
theorem dX7_putBackFromBreak_0 : decode cX7_putBackFromBreak 0 = .ok (.aload_n 0, 1) := by decide +kernel
theorem dX7_putBackFromBreak_1 : decode cX7_putBackFromBreak 1 = .ok (.getfield 37, 3) := by decide +kernel
theorem dX7_putBackFromBreak_4 : decode cX7_putBackFromBreak 4 = .ok (.getfield 60, 3) := by decide +kernel
theorem dX7_putBackFromBreak_7 : decode cX7_putBackFromBreak 7 = .ok (.iconst 1, 1) := by decide +kernel
theorem dX7_putBackFromBreak_8 : decode cX7_putBackFromBreak 8 = .ok (.isub, 1) := by decide +kernel
theorem dX7_putBackFromBreak_9 : decode cX7_putBackFromBreak 9 = .ok (.istore_n 1, 1) := by decide +kernel
theorem dX7_putBackFromBreak_10 : decode cX7_putBackFromBreak 10 = .ok (.iload_n 1, 1) := by decide +kernel
theorem dX7_putBackFromBreak_11 : decode cX7_putBackFromBreak 11 = .ok (.aload_n 0, 1) := by decide +kernel
theorem dX7_putBackFromBreak_12 : decode cX7_putBackFromBreak 12 = .ok (.getfield 37, 3) := by decide +kernel
theorem dX7_putBackFromBreak_15 : decode cX7_putBackFromBreak 15 = .ok (.getfield 266, 3) := by decide +kernel
theorem dX7_putBackFromBreak_18 : decode cX7_putBackFromBreak 18 = .ok (.if_icmp .lt 25, 3) := by decide +kernel
theorem dX7_putBackFromBreak_21 : decode cX7_putBackFromBreak 21 = .ok (.aload_n 0, 1) := by decide +kernel
theorem dX7_putBackFromBreak_22 : decode cX7_putBackFromBreak 22 = .ok (.getfield 30, 3) := by decide +kernel
theorem dX7_putBackFromBreak_25 : decode cX7_putBackFromBreak 25 = .ok (.aload_n 0, 1) := by decide +kernel
theorem dX7_putBackFromBreak_26 : decode cX7_putBackFromBreak 26 = .ok (.getfield 37, 3) := by decide +kernel
theorem dX7_putBackFromBreak_29 : decode cX7_putBackFromBreak 29 = .ok (.getfield 206, 3) := by decide +kernel
theorem dX7_putBackFromBreak_32 : decode cX7_putBackFromBreak 32 = .ok (.iload_n 1, 1) := by decide +kernel
theorem dX7_putBackFromBreak_33 : decode cX7_putBackFromBreak 33 = .ok (.aaload, 1) := by decide +kernel
theorem dX7_putBackFromBreak_34 : decode cX7_putBackFromBreak 34 = .ok (.invokevirtual 269, 3) := by decide +kernel
theorem dX7_putBackFromBreak_37 : decode cX7_putBackFromBreak 37 = .ok (.iinc 1 (-1), 3) := by decide +kernel
theorem dX7_putBackFromBreak_40 : decode cX7_putBackFromBreak 40 = .ok (.goto (-30), 3) := by decide +kernel
theorem dX7_putBackFromBreak_43 : decode cX7_putBackFromBreak 43 = .ok (.aload_n 0, 1) := by decide +kernel
theorem dX7_putBackFromBreak_44 : decode cX7_putBackFromBreak 44 = .ok (.getfield 30, 3) := by decide +kernel
theorem dX7_putBackFromBreak_47 : decode cX7_putBackFromBreak 47 = .ok (.iconst 0, 1) := by decide +kernel
theorem dX7_putBackFromBreak_48 : decode cX7_putBackFromBreak 48 = .ok (.invokevirtual 183, 3) := by decide +kernel
theorem dX7_putBackFromBreak_51 : decode cX7_putBackFromBreak 51 = .ok (.astore_n 1, 1) := by decide +kernel
theorem dX7_putBackFromBreak_52 : decode cX7_putBackFromBreak 52 = .ok (.aload_n 1, 1) := by decide +kernel
theorem dX7_putBackFromBreak_53 : decode cX7_putBackFromBreak 53 = .ok (.ifnull 17, 3) := by decide +kernel
theorem dX7_putBackFromBreak_56 : decode cX7_putBackFromBreak 56 = .ok (.aload_n 1, 1) := by decide +kernel
theorem dX7_putBackFromBreak_57 : decode cX7_putBackFromBreak 57 = .ok (.getfield 224, 3) := by decide +kernel
theorem dX7_putBackFromBreak_60 : decode cX7_putBackFromBreak 60 = .ok (.getstatic 105, 3) := by decide +kernel
theorem dX7_putBackFromBreak_63 : decode cX7_putBackFromBreak 63 = .ok (.if_acmp .ne 7, 3) := by decide +kernel
theorem dX7_putBackFromBreak_66 : decode cX7_putBackFromBreak 66 = .ok (.aload_n 0, 1) := by decide +kernel
theorem dX7_putBackFromBreak_67 : decode cX7_putBackFromBreak 67 = .ok (.invokevirtual 230, 3) := by decide +kernel
theorem dX7_putBackFromBreak_70 : decode cX7_putBackFromBreak 70 = .ok (.return_, 1) := by decide +kernel
theorem dX7_putBackInserts_0 : decode cX7_putBackInserts 0 = .ok (.aload_n 0, 1) := by decide +kernel
theorem dX7_putBackInserts_1 : decode cX7_putBackInserts 1 = .ok (.getfield 37, 3) := by decide +kernel
theorem dX7_putBackInserts_4 : decode cX7_putBackInserts 4 = .ok (.getfield 266, 3) := by decide +kernel
theorem dX7_putBackInserts_7 : decode cX7_putBackInserts 7 = .ok (.iconst 1, 1) := by decide +kernel
theorem dX7_putBackInserts_8 : decode cX7_putBackInserts 8 = .ok (.isub, 1) := by decide +kernel
theorem dX7_putBackInserts_9 : decode cX7_putBackInserts 9 = .ok (.istore_n 1, 1) := by decide +kernel
theorem dX7_putBackInserts_10 : decode cX7_putBackInserts 10 = .ok (.iload_n 1, 1) := by decide +kernel
theorem dX7_putBackInserts_11 : decode cX7_putBackInserts 11 = .ok (.ifCond .lt 52, 3) := by decide +kernel
theorem dX7_putBackInserts_14 : decode cX7_putBackInserts 14 = .ok (.aload_n 0, 1) := by decide +kernel
theorem dX7_putBackInserts_15 : decode cX7_putBackInserts 15 = .ok (.getfield 37, 3) := by decide +kernel
theorem dX7_putBackInserts_18 : decode cX7_putBackInserts 18 = .ok (.getfield 206, 3) := by decide +kernel
theorem dX7_putBackInserts_21 : decode cX7_putBackInserts 21 = .ok (.iload_n 1, 1) := by decide +kernel
theorem dX7_putBackInserts_22 : decode cX7_putBackInserts 22 = .ok (.aaload, 1) := by decide +kernel
theorem dX7_putBackInserts_23 : decode cX7_putBackInserts 23 = .ok (.astore_n 2, 1) := by decide +kernel
theorem dX7_putBackInserts_24 : decode cX7_putBackInserts 24 = .ok (.aload_n 2, 1) := by decide +kernel
theorem dX7_putBackInserts_25 : decode cX7_putBackInserts 25 = .ok (.dup, 1) := by decide +kernel
theorem dX7_putBackInserts_26 : decode cX7_putBackInserts 26 = .ok (.getfield 119, 3) := by decide +kernel
theorem dX7_putBackInserts_29 : decode cX7_putBackInserts 29 = .ok (.aload_n 0, 1) := by decide +kernel
theorem dX7_putBackInserts_30 : decode cX7_putBackInserts 30 = .ok (.getfield 37, 3) := by decide +kernel
theorem dX7_putBackInserts_33 : decode cX7_putBackInserts 33 = .ok (.getfield 272, 3) := by decide +kernel
theorem dX7_putBackInserts_36 : decode cX7_putBackInserts 36 = .ok (.iload_n 1, 1) := by decide +kernel
theorem dX7_putBackInserts_37 : decode cX7_putBackInserts 37 = .ok (.iaload, 1) := by decide +kernel
theorem dX7_putBackInserts_38 : decode cX7_putBackInserts 38 = .ok (.isub, 1) := by decide +kernel
theorem dX7_putBackInserts_39 : decode cX7_putBackInserts 39 = .ok (.putfield 119, 3) := by decide +kernel
theorem dX7_putBackInserts_42 : decode cX7_putBackInserts 42 = .ok (.aload_n 2, 1) := by decide +kernel
theorem dX7_putBackInserts_43 : decode cX7_putBackInserts 43 = .ok (.getfield 119, 3) := by decide +kernel
theorem dX7_putBackInserts_46 : decode cX7_putBackInserts 46 = .ok (.ifCond .le 11, 3) := by decide +kernel
theorem dX7_putBackInserts_49 : decode cX7_putBackInserts 49 = .ok (.aload_n 0, 1) := by decide +kernel
theorem dX7_putBackInserts_50 : decode cX7_putBackInserts 50 = .ok (.getfield 30, 3) := by decide +kernel
theorem dX7_putBackInserts_53 : decode cX7_putBackInserts 53 = .ok (.aload_n 2, 1) := by decide +kernel
theorem dX7_putBackInserts_54 : decode cX7_putBackInserts 54 = .ok (.invokevirtual 269, 3) := by decide +kernel
theorem dX7_putBackInserts_57 : decode cX7_putBackInserts 57 = .ok (.iinc 1 (-1), 3) := by decide +kernel
theorem dX7_putBackInserts_60 : decode cX7_putBackInserts 60 = .ok (.goto (-50), 3) := by decide +kernel
theorem dX7_putBackInserts_63 : decode cX7_putBackInserts 63 = .ok (.return_, 1) := by decide +kernel
theorem dX7_badnessOf_0 : decode cX7_badnessOf 0 = .ok (.lload_n 0, 1) := by decide +kernel
theorem dX7_badnessOf_1 : decode cX7_badnessOf 1 = .ok (.lconst 0, 1) := by decide +kernel
theorem dX7_badnessOf_2 : decode cX7_badnessOf 2 = .ok (.lcmp, 1) := by decide +kernel
theorem dX7_badnessOf_3 : decode cX7_badnessOf 3 = .ok (.ifCond .ne 5, 3) := by decide +kernel
theorem dX7_badnessOf_6 : decode cX7_badnessOf 6 = .ok (.iconst 0, 1) := by decide +kernel
theorem dX7_badnessOf_7 : decode cX7_badnessOf 7 = .ok (.ireturn, 1) := by decide +kernel
theorem dX7_badnessOf_8 : decode cX7_badnessOf 8 = .ok (.lload_n 2, 1) := by decide +kernel
theorem dX7_badnessOf_9 : decode cX7_badnessOf 9 = .ok (.lconst 0, 1) := by decide +kernel
theorem dX7_badnessOf_10 : decode cX7_badnessOf 10 = .ok (.lcmp, 1) := by decide +kernel
theorem dX7_badnessOf_11 : decode cX7_badnessOf 11 = .ok (.ifCond .gt 7, 3) := by decide +kernel
theorem dX7_badnessOf_14 : decode cX7_badnessOf 14 = .ok (.sipush 10000, 3) := by decide +kernel
theorem dX7_badnessOf_17 : decode cX7_badnessOf 17 = .ok (.ireturn, 1) := by decide +kernel
