theorem dX0_init_0 : decode cX0_init 0 = .ok (.aload_n 0, 1) := by decide +kernel
theorem dX0_init_1 : decode cX0_init 1 = .ok (.invokespecial 3, 3) := by decide +kernel
theorem dX0_init_4 : decode cX0_init 4 = .ok (.aload_n 0, 1) := by decide +kernel
theorem dX0_init_5 : decode cX0_init 5 = .ok (.sipush 400, 3) := by decide +kernel
theorem dX0_init_8 : decode cX0_init 8 = .ok (.anewarray 9, 3) := by decide +kernel
theorem dX0_init_11 : decode cX0_init 11 = .ok (.putfield 11, 3) := by decide +kernel
theorem dX0_init_14 : decode cX0_init 14 = .ok (.aload_n 0, 1) := by decide +kernel
theorem dX0_init_15 : decode cX0_init 15 = .ok (.sipush 400, 3) := by decide +kernel
theorem dX0_init_18 : decode cX0_init 18 = .ok (.newarray .int, 2) := by decide +kernel
theorem dX0_init_20 : decode cX0_init 20 = .ok (.putfield 17, 3) := by decide +kernel
theorem dX0_init_23 : decode cX0_init 23 = .ok (.aload_n 0, 1) := by decide +kernel
theorem dX0_init_24 : decode cX0_init 24 = .ok (.new 21, 3) := by decide +kernel
theorem dX0_init_27 : decode cX0_init 27 = .ok (.dup, 1) := by decide +kernel
theorem dX0_init_28 : decode cX0_init 28 = .ok (.invokespecial 23, 3) := by decide +kernel
theorem dX0_init_31 : decode cX0_init 31 = .ok (.putfield 24, 3) := by decide +kernel
theorem dX0_init_34 : decode cX0_init 34 = .ok (.aload_n 0, 1) := by decide +kernel
theorem dX0_init_35 : decode cX0_init 35 = .ok (.iconst 4, 1) := by decide +kernel
theorem dX0_init_36 : decode cX0_init 36 = .ok (.newarray .boolean, 2) := by decide +kernel
theorem dX0_init_38 : decode cX0_init 38 = .ok (.putfield 28, 3) := by decide +kernel
theorem dX0_init_41 : decode cX0_init 41 = .ok (.aload_n 0, 1) := by decide +kernel
theorem dX0_init_42 : decode cX0_init 42 = .ok (.iconst 4, 1) := by decide +kernel
theorem dX0_init_43 : decode cX0_init 43 = .ok (.newarray .boolean, 2) := by decide +kernel
theorem dX0_init_45 : decode cX0_init 45 = .ok (.putfield 32, 3) := by decide +kernel
theorem dX0_init_48 : decode cX0_init 48 = .ok (.aload_n 0, 1) := by decide +kernel
theorem dX0_init_49 : decode cX0_init 49 = .ok (.new 21, 3) := by decide +kernel
theorem dX0_init_52 : decode cX0_init 52 = .ok (.dup, 1) := by decide +kernel
theorem dX0_init_53 : decode cX0_init 53 = .ok (.invokespecial 23, 3) := by decide +kernel
theorem dX0_init_56 : decode cX0_init 56 = .ok (.putfield 35, 3) := by decide +kernel
theorem dX0_init_59 : decode cX0_init 59 = .ok (.return_, 1) := by decide +kernel
theorem dX0_begin_0 : decode cX0_begin 0 = .ok (.aload_n 0, 1) := by decide +kernel
theorem dX0_begin_1 : decode cX0_begin 1 = .ok (.iconst 0, 1) := by decide +kernel
theorem dX0_begin_2 : decode cX0_begin 2 = .ok (.putfield 38, 3) := by decide +kernel
theorem dX0_begin_5 : decode cX0_begin 5 = .ok (.aload_n 0, 1) := by decide +kernel
theorem dX0_begin_6 : decode cX0_begin 6 = .ok (.iconst 0, 1) := by decide +kernel
theorem dX0_begin_7 : decode cX0_begin 7 = .ok (.putfield 42, 3) := by decide +kernel
theorem dX0_begin_10 : decode cX0_begin 10 = .ok (.aload_n 0, 1) := by decide +kernel
theorem dX0_begin_11 : decode cX0_begin 11 = .ok (.iload_n 2, 1) := by decide +kernel
theorem dX0_begin_12 : decode cX0_begin 12 = .ok (.i2l, 1) := by decide +kernel
theorem dX0_begin_13 : decode cX0_begin 13 = .ok (.putfield 46, 3) := by decide +kernel
theorem dX0_begin_16 : decode cX0_begin 16 = .ok (.aload_n 0, 1) := by decide +kernel
theorem dX0_begin_17 : decode cX0_begin 17 = .ok (.iload_n 3, 1) := by decide +kernel
theorem dX0_begin_18 : decode cX0_begin 18 = .ok (.i2l, 1) := by decide +kernel
theorem dX0_begin_19 : decode cX0_begin 19 = .ok (.putfield 50, 3) := by decide +kernel
theorem dX0_begin_22 : decode cX0_begin 22 = .ok (.aload_n 0, 1) := by decide +kernel
theorem dX0_begin_23 : decode cX0_begin 23 = .ok (.getfield 24, 3) := by decide +kernel
theorem dX0_begin_26 : decode cX0_begin 26 = .ok (.iload_n 1, 1) := by decide +kernel
theorem dX0_begin_27 : decode cX0_begin 27 = .ok (.i2l, 1) := by decide +kernel
theorem dX0_begin_28 : decode cX0_begin 28 = .ok (.invokevirtual 53, 3) := by decide +kernel
theorem dX0_begin_31 : decode cX0_begin 31 = .ok (.iconst 0, 1) := by decide +kernel
theorem dX0_begin_32 : decode cX0_begin 32 = .ok (.istore 4, 2) := by decide +kernel
theorem dX0_begin_34 : decode cX0_begin 34 = .ok (.iload 4, 2) := by decide +kernel
theorem dX0_begin_36 : decode cX0_begin 36 = .ok (.iconst 4, 1) := by decide +kernel
theorem dX0_begin_37 : decode cX0_begin 37 = .ok (.if_icmp .ge 25, 3) := by decide +kernel
theorem dX0_begin_40 : decode cX0_begin 40 = .ok (.aload_n 0, 1) := by decide +kernel
theorem dX0_begin_41 : decode cX0_begin 41 = .ok (.getfield 28, 3) := by decide +kernel
theorem dX0_begin_44 : decode cX0_begin 44 = .ok (.iload 4, 2) := by decide +kernel
theorem dX0_begin_46 : decode cX0_begin 46 = .ok (.iconst 0, 1) := by decide +kernel
theorem dX0_begin_47 : decode cX0_begin 47 = .ok (.bastore, 1) := by decide +kernel
theorem dX0_begin_48 : decode cX0_begin 48 = .ok (.aload_n 0, 1) := by decide +kernel
theorem dX0_begin_49 : decode cX0_begin 49 = .ok (.getfield 32, 3) := by decide +kernel
theorem dX0_begin_52 : decode cX0_begin 52 = .ok (.iload 4, 2) := by decide +kernel
theorem dX0_begin_54 : decode cX0_begin 54 = .ok (.iconst 0, 1) := by decide +kernel
theorem dX0_begin_55 : decode cX0_begin 55 = .ok (.bastore, 1) := by decide +kernel
theorem dX0_begin_56 : decode cX0_begin 56 = .ok (.iinc 4 1, 3) := by decide +kernel
theorem dX0_begin_59 : decode cX0_begin 59 = .ok (.goto (-25), 3) := by decide +kernel
theorem dX0_begin_62 : decode cX0_begin 62 = .ok (.aload_n 0, 1) := by decide +kernel
theorem dX0_begin_63 : decode cX0_begin 63 = .ok (.lconst 0, 1) := by decide +kernel
theorem dX0_begin_64 : decode cX0_begin 64 = .ok (.putfield 57, 3) := by decide +kernel
theorem dX0_begin_67 : decode cX0_begin 67 = .ok (.aload_n 0, 1) := by decide +kernel
theorem dX0_begin_68 : decode cX0_begin 68 = .ok (.ldc2_w 60, 3) := by decide +kernel
theorem dX0_begin_71 : decode cX0_begin 71 = .ok (.putfield 62, 3) := by decide +kernel
theorem dX0_begin_74 : decode cX0_begin 74 = .ok (.aload_n 0, 1) := by decide +kernel
theorem dX0_begin_75 : decode cX0_begin 75 = .ok (.iconst 0, 1) := by decide +kernel
theorem dX0_begin_76 : decode cX0_begin 76 = .ok (.putfield 65, 3) := by decide +kernel
theorem dX0_begin_79 : decode cX0_begin 79 = .ok (.aload_n 0, 1) := by decide +kernel
theorem dX0_begin_80 : decode cX0_begin 80 = .ok (.iconst 0, 1) := by decide +kernel
theorem dX0_begin_81 : decode cX0_begin 81 = .ok (.putfield 68, 3) := by decide +kernel
theorem dX0_begin_84 : decode cX0_begin 84 = .ok (.return_, 1) := by decide +kernel
theorem dX0_mayBreakBefore_0 : decode cX0_mayBreakBefore 0 = .ok (.aload_n 1, 1) := by decide +kernel
theorem dX0_mayBreakBefore_1 : decode cX0_mayBreakBefore 1 = .ok (.getfield 71, 3) := by decide +kernel
theorem dX0_mayBreakBefore_4 : decode cX0_mayBreakBefore 4 = .ok (.getstatic 75, 3) := by decide +kernel
theorem dX0_mayBreakBefore_7 : decode cX0_mayBreakBefore 7 = .ok (.if_acmp .ne 36, 3) := by decide +kernel
theorem dX0_mayBreakBefore_10 : decode cX0_mayBreakBefore 10 = .ok (.aload_n 0, 1) := by decide +kernel
theorem dX0_mayBreakBefore_11 : decode cX0_mayBreakBefore 11 = .ok (.getfield 38, 3) := by decide +kernel
theorem dX0_mayBreakBefore_14 : decode cX0_mayBreakBefore 14 = .ok (.ifCond .le 27, 3) := by decide +kernel
theorem dX0_mayBreakBefore_17 : decode cX0_mayBreakBefore 17 = .ok (.aload_n 0, 1) := by decide +kernel
theorem dX0_mayBreakBefore_18 : decode cX0_mayBreakBefore 18 = .ok (.getfield 11, 3) := by decide +kernel
theorem dX0_mayBreakBefore_21 : decode cX0_mayBreakBefore 21 = .ok (.aload_n 0, 1) := by decide +kernel
theorem dX0_mayBreakBefore_22 : decode cX0_mayBreakBefore 22 = .ok (.getfield 38, 3) := by decide +kernel
theorem dX0_mayBreakBefore_25 : decode cX0_mayBreakBefore 25 = .ok (.iconst 1, 1) := by decide +kernel
theorem dX0_mayBreakBefore_26 : decode cX0_mayBreakBefore 26 = .ok (.isub, 1) := by decide +kernel
theorem dX0_mayBreakBefore_27 : decode cX0_mayBreakBefore 27 = .ok (.aaload, 1) := by decide +kernel
theorem dX0_mayBreakBefore_28 : decode cX0_mayBreakBefore 28 = .ok (.getfield 71, 3) := by decide +kernel
theorem dX0_mayBreakBefore_31 : decode cX0_mayBreakBefore 31 = .ok (.getfield 80, 3) := by decide +kernel
theorem dX0_mayBreakBefore_34 : decode cX0_mayBreakBefore 34 = .ok (.ifCond .ne 7, 3) := by decide +kernel
theorem dX0_mayBreakBefore_37 : decode cX0_mayBreakBefore 37 = .ok (.iconst 1, 1) := by decide +kernel
theorem dX0_mayBreakBefore_38 : decode cX0_mayBreakBefore 38 = .ok (.goto 4, 3) := by decide +kernel
theorem dX0_mayBreakBefore_41 : decode cX0_mayBreakBefore 41 = .ok (.iconst 0, 1) := by decide +kernel
theorem dX0_mayBreakBefore_42 : decode cX0_mayBreakBefore 42 = .ok (.ireturn, 1) := by decide +kernel
theorem dX0_mayBreakBefore_43 : decode cX0_mayBreakBefore 43 = .ok (.aload_n 1, 1) := by decide +kernel
theorem dX0_mayBreakBefore_44 : decode cX0_mayBreakBefore 44 = .ok (.getfield 71, 3) := by decide +kernel
theorem dX0_mayBreakBefore_47 : decode cX0_mayBreakBefore 47 = .ok (.getstatic 83, 3) := by decide +kernel
theorem dX0_mayBreakBefore_50 : decode cX0_mayBreakBefore 50 = .ok (.if_acmp .ne 23, 3) := by decide +kernel
theorem dX0_mayBreakBefore_53 : decode cX0_mayBreakBefore 53 = .ok (.aload_n 2, 1) := by decide +kernel
theorem dX0_mayBreakBefore_54 : decode cX0_mayBreakBefore 54 = .ok (.ifnull 17, 3) := by decide +kernel
theorem dX0_mayBreakBefore_57 : decode cX0_mayBreakBefore 57 = .ok (.aload_n 2, 1) := by decide +kernel
theorem dX0_mayBreakBefore_58 : decode cX0_mayBreakBefore 58 = .ok (.getfield 71, 3) := by decide +kernel
theorem dX0_mayBreakBefore_61 : decode cX0_mayBreakBefore 61 = .ok (.getstatic 75, 3) := by decide +kernel
theorem dX0_mayBreakBefore_64 : decode cX0_mayBreakBefore 64 = .ok (.if_acmp .ne 7, 3) := by decide +kernel
theorem dX0_mayBreakBefore_67 : decode cX0_mayBreakBefore 67 = .ok (.iconst 1, 1) := by decide +kernel
theorem dX0_mayBreakBefore_68 : decode cX0_mayBreakBefore 68 = .ok (.goto 4, 3) := by decide +kernel
theorem dX0_mayBreakBefore_71 : decode cX0_mayBreakBefore 71 = .ok (.iconst 0, 1) := by decide +kernel
theorem dX0_mayBreakBefore_72 : decode cX0_mayBreakBefore 72 = .ok (.ireturn, 1) := by decide +kernel
theorem dX0_mayBreakBefore_73 : decode cX0_mayBreakBefore 73 = .ok (.aload_n 1, 1) := by decide +kernel
theorem dX0_mayBreakBefore_74 : decode cX0_mayBreakBefore 74 = .ok (.getfield 71, 3) := by decide +kernel
theorem dX0_mayBreakBefore_77 : decode cX0_mayBreakBefore 77 = .ok (.getstatic 86, 3) := by decide +kernel
theorem dX0_mayBreakBefore_80 : decode cX0_mayBreakBefore 80 = .ok (.if_acmp .ne 17, 3) := by decide +kernel
theorem dX0_mayBreakBefore_83 : decode cX0_mayBreakBefore 83 = .ok (.aload_n 1, 1) := by decide +kernel
theorem dX0_mayBreakBefore_84 : decode cX0_mayBreakBefore 84 = .ok (.getfield 89, 3) := by decide +kernel
theorem dX0_mayBreakBefore_87 : decode cX0_mayBreakBefore 87 = .ok (.sipush 10000, 3) := by decide +kernel
theorem dX0_mayBreakBefore_90 : decode cX0_mayBreakBefore 90 = .ok (.if_icmp .ge 7, 3) := by decide +kernel
theorem dX0_mayBreakBefore_93 : decode cX0_mayBreakBefore 93 = .ok (.iconst 1, 1) := by decide +kernel
theorem dX0_mayBreakBefore_94 : decode cX0_mayBreakBefore 94 = .ok (.goto 4, 3) := by decide +kernel
theorem dX0_mayBreakBefore_97 : decode cX0_mayBreakBefore 97 = .ok (.iconst 0, 1) := by decide +kernel
theorem dX0_mayBreakBefore_98 : decode cX0_mayBreakBefore 98 = .ok (.ireturn, 1) := by decide +kernel
theorem dX0_endsAt_0 : decode cX0_endsAt 0 = .ok (.aload_n 0, 1) := by decide +kernel
theorem dX0_endsAt_1 : decode cX0_endsAt 1 = .ok (.iload_n 1, 1) := by decide +kernel
theorem dX0_endsAt_2 : decode cX0_endsAt 2 = .ok (.invokevirtual 92, 3) := by decide +kernel
theorem dX0_endsAt_5 : decode cX0_endsAt 5 = .ok (.lstore_n 2, 1) := by decide +kernel
theorem dX0_endsAt_6 : decode cX0_endsAt 6 = .ok (.lload_n 2, 1) := by decide +kernel
theorem dX0_endsAt_7 : decode cX0_endsAt 7 = .ok (.aload_n 0, 1) := by decide +kernel
theorem dX0_endsAt_8 : decode cX0_endsAt 8 = .ok (.getfield 62, 3) := by decide +kernel
theorem dX0_endsAt_11 : decode cX0_endsAt 11 = .ok (.lcmp, 1) := by decide +kernel
theorem dX0_endsAt_12 : decode cX0_endsAt 12 = .ok (.ifCond .gt 32, 3) := by decide +kernel
theorem dX0_endsAt_15 : decode cX0_endsAt 15 = .ok (.aload_n 0, 1) := by decide +kernel
theorem dX0_endsAt_16 : decode cX0_endsAt 16 = .ok (.lload_n 2, 1) := by decide +kernel
theorem dX0_endsAt_17 : decode cX0_endsAt 17 = .ok (.putfield 62, 3) := by decide +kernel
theorem dX0_endsAt_20 : decode cX0_endsAt 20 = .ok (.aload_n 0, 1) := by decide +kernel
theorem dX0_endsAt_21 : decode cX0_endsAt 21 = .ok (.aload_n 0, 1) := by decide +kernel
theorem dX0_endsAt_22 : decode cX0_endsAt 22 = .ok (.getfield 38, 3) := by decide +kernel
theorem dX0_endsAt_25 : decode cX0_endsAt 25 = .ok (.putfield 65, 3) := by decide +kernel
theorem dX0_endsAt_28 : decode cX0_endsAt 28 = .ok (.aload_n 0, 1) := by decide +kernel
theorem dX0_endsAt_29 : decode cX0_endsAt 29 = .ok (.iload_n 1, 1) := by decide +kernel
theorem dX0_endsAt_30 : decode cX0_endsAt 30 = .ok (.putfield 68, 3) := by decide +kernel
theorem dX0_endsAt_33 : decode cX0_endsAt 33 = .ok (.aload_n 0, 1) := by decide +kernel
theorem dX0_endsAt_34 : decode cX0_endsAt 34 = .ok (.getfield 35, 3) := by decide +kernel
theorem dX0_endsAt_37 : decode cX0_endsAt 37 = .ok (.aload_n 0, 1) := by decide +kernel
theorem dX0_endsAt_38 : decode cX0_endsAt 38 = .ok (.getfield 24, 3) := by decide +kernel
theorem dX0_endsAt_41 : decode cX0_endsAt 41 = .ok (.invokevirtual 96, 3) := by decide +kernel
theorem dX0_endsAt_44 : decode cX0_endsAt 44 = .ok (.lload_n 2, 1) := by decide +kernel
theorem dX0_endsAt_45 : decode cX0_endsAt 45 = .ok (.ldc2_w 60, 3) := by decide +kernel
theorem dX0_endsAt_48 : decode cX0_endsAt 48 = .ok (.lcmp, 1) := by decide +kernel
theorem dX0_endsAt_49 : decode cX0_endsAt 49 = .ok (.ifCond .eq 10, 3) := by decide +kernel
theorem dX0_endsAt_52 : decode cX0_endsAt 52 = .ok (.iload_n 1, 1) := by decide +kernel
theorem dX0_endsAt_53 : decode cX0_endsAt 53 = .ok (.sipush (-10000), 3) := by decide +kernel
theorem dX0_endsAt_56 : decode cX0_endsAt 56 = .ok (.if_icmp .ne 7, 3) := by decide +kernel
theorem dX0_endsAt_59 : decode cX0_endsAt 59 = .ok (.iconst 1, 1) := by decide +kernel
theorem dX0_endsAt_60 : decode cX0_endsAt 60 = .ok (.goto 4, 3) := by decide +kernel
theorem dX0_endsAt_63 : decode cX0_endsAt 63 = .ok (.iconst 0, 1) := by decide +kernel
theorem dX0_endsAt_64 : decode cX0_endsAt 64 = .ok (.ireturn, 1) := by decide +kernel
theorem dX0_costAt_0 : decode cX0_costAt 0 = .ok (.aload_n 0, 1) := by decide +kernel
theorem dX0_costAt_1 : decode cX0_costAt 1 = .ok (.getfield 24, 3) := by decide +kernel
theorem dX0_costAt_4 : decode cX0_costAt 4 = .ok (.invokevirtual 100, 3) := by decide +kernel
theorem dX0_costAt_7 : decode cX0_costAt 7 = .ok (.istore_n 2, 1) := by decide +kernel
theorem dX0_costAt_8 : decode cX0_costAt 8 = .ok (.iload_n 2, 1) := by decide +kernel
theorem dX0_costAt_9 : decode cX0_costAt 9 = .ok (.ldc 104, 2) := by decide +kernel
theorem dX0_costAt_11 : decode cX0_costAt 11 = .ok (.if_icmp .eq 14, 3) := by decide +kernel
theorem dX0_costAt_14 : decode cX0_costAt 14 = .ok (.aload_n 0, 1) := by decide +kernel
theorem dX0_costAt_15 : decode cX0_costAt 15 = .ok (.getfield 57, 3) := by decide +kernel
theorem dX0_costAt_18 : decode cX0_costAt 18 = .ok (.ldc2_w 105, 3) := by decide +kernel
theorem dX0_costAt_21 : decode cX0_costAt 21 = .ok (.lcmp, 1) := by decide +kernel
theorem dX0_costAt_22 : decode cX0_costAt 22 = .ok (.ifCond .lt 7, 3) := by decide +kernel
theorem dX0_costAt_25 : decode cX0_costAt 25 = .ok (.ldc2_w 60, 3) := by decide +kernel
theorem dX0_costAt_28 : decode cX0_costAt 28 = .ok (.lreturn, 1) := by decide +kernel
theorem dX0_costAt_29 : decode cX0_costAt 29 = .ok (.iload_n 1, 1) := by decide +kernel
theorem dX0_costAt_30 : decode cX0_costAt 30 = .ok (.sipush (-10000), 3) := by decide +kernel
theorem dX0_costAt_33 : decode cX0_costAt 33 = .ok (.if_icmp .ne 6, 3) := by decide +kernel
theorem dX0_costAt_36 : decode cX0_costAt 36 = .ok (.iload_n 1, 1) := by decide +kernel
theorem dX0_costAt_37 : decode cX0_costAt 37 = .ok (.i2l, 1) := by decide +kernel
theorem dX0_costAt_38 : decode cX0_costAt 38 = .ok (.lreturn, 1) := by decide +kernel
theorem dX0_costAt_39 : decode cX0_costAt 39 = .ok (.iload_n 2, 1) := by decide +kernel
theorem dX0_costAt_40 : decode cX0_costAt 40 = .ok (.sipush 10000, 3) := by decide +kernel
theorem dX0_costAt_43 : decode cX0_costAt 43 = .ok (.if_icmp .ge 15, 3) := by decide +kernel
theorem dX0_costAt_46 : decode cX0_costAt 46 = .ok (.iload_n 2, 1) := by decide +kernel
theorem dX0_costAt_47 : decode cX0_costAt 47 = .ok (.iload_n 1, 1) := by decide +kernel
theorem dX0_costAt_48 : decode cX0_costAt 48 = .ok (.iadd, 1) := by decide +kernel
theorem dX0_costAt_49 : decode cX0_costAt 49 = .ok (.i2l, 1) := by decide +kernel
theorem dX0_costAt_50 : decode cX0_costAt 50 = .ok (.aload_n 0, 1) := by decide +kernel
theorem dX0_costAt_51 : decode cX0_costAt 51 = .ok (.getfield 57, 3) := by decide +kernel
theorem dX0_costAt_54 : decode cX0_costAt 54 = .ok (.ladd, 1) := by decide +kernel
theorem dX0_costAt_55 : decode cX0_costAt 55 = .ok (.goto 6, 3) := by decide +kernel
theorem dX0_costAt_58 : decode cX0_costAt 58 = .ok (.ldc2_w 107, 3) := by decide +kernel
theorem dX0_costAt_61 : decode cX0_costAt 61 = .ok (.lreturn, 1) := by decide +kernel
theorem dX0_put_0 : decode cX0_put 0 = .ok (.aload_n 0, 1) := by decide +kernel
theorem dX0_put_1 : decode cX0_put 1 = .ok (.getfield 38, 3) := by decide +kernel
theorem dX0_put_4 : decode cX0_put 4 = .ok (.sipush 400, 3) := by decide +kernel
theorem dX0_put_7 : decode cX0_put 7 = .ok (.if_icmp .lt 4, 3) := by decide +kernel
theorem dX0_put_10 : decode cX0_put 10 = .ok (.return_, 1) := by decide +kernel
theorem dX0_put_11 : decode cX0_put 11 = .ok (.aload_n 0, 1) := by decide +kernel
theorem dX0_put_12 : decode cX0_put 12 = .ok (.getfield 11, 3) := by decide +kernel
theorem dX0_put_15 : decode cX0_put 15 = .ok (.aload_n 0, 1) := by decide +kernel
theorem dX0_put_16 : decode cX0_put 16 = .ok (.getfield 38, 3) := by decide +kernel
theorem dX0_put_19 : decode cX0_put 19 = .ok (.aload_n 1, 1) := by decide +kernel
theorem dX0_put_20 : decode cX0_put 20 = .ok (.aastore, 1) := by decide +kernel
theorem dX0_put_21 : decode cX0_put 21 = .ok (.aload_n 0, 1) := by decide +kernel
theorem dX0_put_22 : decode cX0_put 22 = .ok (.getfield 17, 3) := by decide +kernel
theorem dX0_put_25 : decode cX0_put 25 = .ok (.aload_n 0, 1) := by decide +kernel
theorem dX0_put_26 : decode cX0_put 26 = .ok (.getfield 38, 3) := by decide +kernel
theorem dX0_put_29 : decode cX0_put 29 = .ok (.aload_n 1, 1) := by decide +kernel
theorem dX0_put_30 : decode cX0_put 30 = .ok (.getfield 109, 3) := by decide +kernel
theorem dX0_put_33 : decode cX0_put 33 = .ok (.ifnonnull 7, 3) := by decide +kernel
theorem dX0_put_36 : decode cX0_put 36 = .ok (.iconst 0, 1) := by decide +kernel
theorem dX0_put_37 : decode cX0_put 37 = .ok (.goto 12, 3) := by decide +kernel
theorem dX0_put_40 : decode cX0_put 40 = .ok (.aload_n 0, 1) := by decide +kernel
theorem dX0_put_41 : decode cX0_put 41 = .ok (.aload_n 1, 1) := by decide +kernel
theorem dX0_put_42 : decode cX0_put 42 = .ok (.aload_n 1, 1) := by decide +kernel
theorem dX0_put_43 : decode cX0_put 43 = .ok (.getfield 109, 3) := by decide +kernel
theorem dX0_put_46 : decode cX0_put 46 = .ok (.invokevirtual 113, 3) := by decide +kernel
theorem dX0_put_49 : decode cX0_put 49 = .ok (.iastore, 1) := by decide +kernel
theorem dX0_put_50 : decode cX0_put 50 = .ok (.aload_n 0, 1) := by decide +kernel
theorem dX0_put_51 : decode cX0_put 51 = .ok (.dup, 1) := by decide +kernel
theorem dX0_put_52 : decode cX0_put 52 = .ok (.getfield 38, 3) := by decide +kernel
theorem dX0_put_55 : decode cX0_put 55 = .ok (.iconst 1, 1) := by decide +kernel
theorem dX0_put_56 : decode cX0_put 56 = .ok (.iadd, 1) := by decide +kernel
theorem dX0_put_57 : decode cX0_put 57 = .ok (.putfield 38, 3) := by decide +kernel
theorem dX0_put_60 : decode cX0_put 60 = .ok (.aload_n 1, 1) := by decide +kernel
theorem dX0_put_61 : decode cX0_put 61 = .ok (.getfield 71, 3) := by decide +kernel
theorem dX0_put_64 : decode cX0_put 64 = .ok (.getstatic 117, 3) := by decide +kernel
theorem dX0_put_67 : decode cX0_put 67 = .ok (.if_acmp .ne 11, 3) := by decide +kernel
theorem dX0_put_70 : decode cX0_put 70 = .ok (.aload_n 0, 1) := by decide +kernel
theorem dX0_put_71 : decode cX0_put 71 = .ok (.aload_n 1, 1) := by decide +kernel
theorem dX0_put_72 : decode cX0_put 72 = .ok (.invokevirtual 120, 3) := by decide +kernel
theorem dX0_put_75 : decode cX0_put 75 = .ok (.goto 97, 3) := by decide +kernel
theorem dX0_put_78 : decode cX0_put 78 = .ok (.aload_n 1, 1) := by decide +kernel
theorem dX0_put_79 : decode cX0_put 79 = .ok (.getfield 71, 3) := by decide +kernel
theorem dX0_put_82 : decode cX0_put 82 = .ok (.getstatic 75, 3) := by decide +kernel
theorem dX0_put_85 : decode cX0_put 85 = .ok (.if_acmp .ne 60, 3) := by decide +kernel
theorem dX0_put_88 : decode cX0_put 88 = .ok (.aload_n 0, 1) := by decide +kernel
theorem dX0_put_89 : decode cX0_put 89 = .ok (.getfield 24, 3) := by decide +kernel
theorem dX0_put_92 : decode cX0_put 92 = .ok (.aload_n 1, 1) := by decide +kernel
theorem dX0_put_93 : decode cX0_put 93 = .ok (.getfield 89, 3) := by decide +kernel
theorem dX0_put_96 : decode cX0_put 96 = .ok (.i2l, 1) := by decide +kernel
theorem dX0_put_97 : decode cX0_put 97 = .ok (.lconst 0, 1) := by decide +kernel
theorem dX0_put_98 : decode cX0_put 98 = .ok (.aload_n 0, 1) := by decide +kernel
theorem dX0_put_99 : decode cX0_put 99 = .ok (.getfield 46, 3) := by decide +kernel
theorem dX0_put_102 : decode cX0_put 102 = .ok (.invokevirtual 124, 3) := by decide +kernel
theorem dX0_put_105 : decode cX0_put 105 = .ok (.aload_n 0, 1) := by decide +kernel
theorem dX0_put_106 : decode cX0_put 106 = .ok (.getfield 24, 3) := by decide +kernel
theorem dX0_put_109 : decode cX0_put 109 = .ok (.getfield 128, 3) := by decide +kernel
theorem dX0_put_112 : decode cX0_put 112 = .ok (.aload_n 1, 1) := by decide +kernel
theorem dX0_put_113 : decode cX0_put 113 = .ok (.getfield 132, 3) := by decide +kernel
theorem dX0_put_116 : decode cX0_put 116 = .ok (.dup2, 1) := by decide +kernel
theorem dX0_put_117 : decode cX0_put 117 = .ok (.laload, 1) := by decide +kernel
theorem dX0_put_118 : decode cX0_put 118 = .ok (.aload_n 1, 1) := by decide +kernel
theorem dX0_put_119 : decode cX0_put 119 = .ok (.getfield 135, 3) := by decide +kernel
theorem dX0_put_122 : decode cX0_put 122 = .ok (.i2l, 1) := by decide +kernel
theorem dX0_put_123 : decode cX0_put 123 = .ok (.ladd, 1) := by decide +kernel
theorem dX0_put_124 : decode cX0_put 124 = .ok (.lastore, 1) := by decide +kernel
theorem dX0_put_125 : decode cX0_put 125 = .ok (.aload_n 0, 1) := by decide +kernel
theorem dX0_put_126 : decode cX0_put 126 = .ok (.getfield 24, 3) := by decide +kernel
theorem dX0_put_129 : decode cX0_put 129 = .ok (.dup, 1) := by decide +kernel
theorem dX0_put_130 : decode cX0_put 130 = .ok (.getfield 137, 3) := by decide +kernel
theorem dX0_put_133 : decode cX0_put 133 = .ok (.aload_n 1, 1) := by decide +kernel
theorem dX0_put_134 : decode cX0_put 134 = .ok (.getfield 140, 3) := by decide +kernel
theorem dX0_put_137 : decode cX0_put 137 = .ok (.i2l, 1) := by decide +kernel
theorem dX0_put_138 : decode cX0_put 138 = .ok (.ladd, 1) := by decide +kernel
theorem dX0_put_139 : decode cX0_put 139 = .ok (.putfield 137, 3) := by decide +kernel
theorem dX0_put_142 : decode cX0_put 142 = .ok (.goto 30, 3) := by decide +kernel
theorem dX0_put_145 : decode cX0_put 145 = .ok (.aload_n 1, 1) := by decide +kernel
theorem dX0_put_146 : decode cX0_put 146 = .ok (.getfield 71, 3) := by decide +kernel
theorem dX0_put_149 : decode cX0_put 149 = .ok (.getstatic 83, 3) := by decide +kernel
theorem dX0_put_152 : decode cX0_put 152 = .ok (.if_acmp .ne 20, 3) := by decide +kernel
theorem dX0_put_155 : decode cX0_put 155 = .ok (.aload_n 0, 1) := by decide +kernel
theorem dX0_put_156 : decode cX0_put 156 = .ok (.getfield 24, 3) := by decide +kernel
theorem dX0_put_159 : decode cX0_put 159 = .ok (.aload_n 1, 1) := by decide +kernel
theorem dX0_put_160 : decode cX0_put 160 = .ok (.getfield 89, 3) := by decide +kernel
theorem dX0_put_163 : decode cX0_put 163 = .ok (.i2l, 1) := by decide +kernel
theorem dX0_put_164 : decode cX0_put 164 = .ok (.lconst 0, 1) := by decide +kernel
theorem dX0_put_165 : decode cX0_put 165 = .ok (.aload_n 0, 1) := by decide +kernel
theorem dX0_put_166 : decode cX0_put 166 = .ok (.getfield 46, 3) := by decide +kernel
theorem dX0_put_169 : decode cX0_put 169 = .ok (.invokevirtual 124, 3) := by decide +kernel
theorem dX0_put_172 : decode cX0_put 172 = .ok (.return_, 1) := by decide +kernel
theorem dX0_putBox_0 : decode cX0_putBox 0 = .ok (.aload_n 0, 1) := by decide +kernel
theorem dX0_putBox_1 : decode cX0_putBox 1 = .ok (.getfield 42, 3) := by decide +kernel
theorem dX0_putBox_4 : decode cX0_putBox 4 = .ok (.ifCond .ne 38, 3) := by decide +kernel
theorem dX0_putBox_7 : decode cX0_putBox 7 = .ok (.aload_n 1, 1) := by decide +kernel
theorem dX0_putBox_8 : decode cX0_putBox 8 = .ok (.getfield 89, 3) := by decide +kernel
theorem dX0_putBox_11 : decode cX0_putBox 11 = .ok (.i2l, 1) := by decide +kernel
theorem dX0_putBox_12 : decode cX0_putBox 12 = .ok (.aload_n 0, 1) := by decide +kernel
theorem dX0_putBox_13 : decode cX0_putBox 13 = .ok (.getfield 50, 3) := by decide +kernel
theorem dX0_putBox_16 : decode cX0_putBox 16 = .ok (.lcmp, 1) := by decide +kernel
theorem dX0_putBox_17 : decode cX0_putBox 17 = .ok (.ifCond .ge 25, 3) := by decide +kernel
theorem dX0_putBox_20 : decode cX0_putBox 20 = .ok (.aload_n 0, 1) := by decide +kernel
theorem dX0_putBox_21 : decode cX0_putBox 21 = .ok (.getfield 24, 3) := by decide +kernel
theorem dX0_putBox_24 : decode cX0_putBox 24 = .ok (.dup, 1) := by decide +kernel
theorem dX0_putBox_25 : decode cX0_putBox 25 = .ok (.getfield 142, 3) := by decide +kernel
theorem dX0_putBox_28 : decode cX0_putBox 28 = .ok (.aload_n 0, 1) := by decide +kernel
theorem dX0_putBox_29 : decode cX0_putBox 29 = .ok (.getfield 50, 3) := by decide +kernel
theorem dX0_putBox_32 : decode cX0_putBox 32 = .ok (.aload_n 1, 1) := by decide +kernel
theorem dX0_putBox_33 : decode cX0_putBox 33 = .ok (.getfield 89, 3) := by decide +kernel
theorem dX0_putBox_36 : decode cX0_putBox 36 = .ok (.i2l, 1) := by decide +kernel
theorem dX0_putBox_37 : decode cX0_putBox 37 = .ok (.lsub, 1) := by decide +kernel
theorem dX0_putBox_38 : decode cX0_putBox 38 = .ok (.ladd, 1) := by decide +kernel
theorem dX0_putBox_39 : decode cX0_putBox 39 = .ok (.putfield 142, 3) := by decide +kernel
theorem dX0_putBox_42 : decode cX0_putBox 42 = .ok (.aload_n 0, 1) := by decide +kernel
theorem dX0_putBox_43 : decode cX0_putBox 43 = .ok (.iconst 1, 1) := by decide +kernel
theorem dX0_putBox_44 : decode cX0_putBox 44 = .ok (.putfield 42, 3) := by decide +kernel
theorem dX0_putBox_47 : decode cX0_putBox 47 = .ok (.aload_n 0, 1) := by decide +kernel
theorem dX0_putBox_48 : decode cX0_putBox 48 = .ok (.getfield 24, 3) := by decide +kernel
theorem dX0_putBox_51 : decode cX0_putBox 51 = .ok (.aload_n 1, 1) := by decide +kernel
theorem dX0_putBox_52 : decode cX0_putBox 52 = .ok (.getfield 89, 3) := by decide +kernel
theorem dX0_putBox_55 : decode cX0_putBox 55 = .ok (.i2l, 1) := by decide +kernel
theorem dX0_putBox_56 : decode cX0_putBox 56 = .ok (.aload_n 1, 1) := by decide +kernel
theorem dX0_putBox_57 : decode cX0_putBox 57 = .ok (.getfield 145, 3) := by decide +kernel
theorem dX0_putBox_60 : decode cX0_putBox 60 = .ok (.i2l, 1) := by decide +kernel
theorem dX0_putBox_61 : decode cX0_putBox 61 = .ok (.aload_n 0, 1) := by decide +kernel
theorem dX0_putBox_62 : decode cX0_putBox 62 = .ok (.getfield 46, 3) := by decide +kernel
theorem dX0_putBox_65 : decode cX0_putBox 65 = .ok (.invokevirtual 124, 3) := by decide +kernel
theorem dX0_putBox_68 : decode cX0_putBox 68 = .ok (.return_, 1) := by decide +kernel
theorem dX0_putInsert_0 : decode cX0_putInsert 0 = .ok (.aload_n 0, 1) := by decide +kernel
theorem dX0_putInsert_1 : decode cX0_putInsert 1 = .ok (.getfield 28, 3) := by decide +kernel
theorem dX0_putInsert_4 : decode cX0_putInsert 4 = .ok (.aload_n 2, 1) := by decide +kernel
theorem dX0_putInsert_5 : decode cX0_putInsert 5 = .ok (.getfield 148, 3) := by decide +kernel
theorem dX0_putInsert_8 : decode cX0_putInsert 8 = .ok (.baload, 1) := by decide +kernel
theorem dX0_putInsert_9 : decode cX0_putInsert 9 = .ok (.ifCond .ne 30, 3) := by decide +kernel
theorem dX0_putInsert_12 : decode cX0_putInsert 12 = .ok (.aload_n 0, 1) := by decide +kernel
theorem dX0_putInsert_13 : decode cX0_putInsert 13 = .ok (.getfield 28, 3) := by decide +kernel
theorem dX0_putInsert_16 : decode cX0_putInsert 16 = .ok (.aload_n 2, 1) := by decide +kernel
theorem dX0_putInsert_17 : decode cX0_putInsert 17 = .ok (.getfield 148, 3) := by decide +kernel
theorem dX0_putInsert_20 : decode cX0_putInsert 20 = .ok (.iconst 1, 1) := by decide +kernel
theorem dX0_putInsert_21 : decode cX0_putInsert 21 = .ok (.bastore, 1) := by decide +kernel
theorem dX0_putInsert_22 : decode cX0_putInsert 22 = .ok (.aload_n 0, 1) := by decide +kernel
theorem dX0_putInsert_23 : decode cX0_putInsert 23 = .ok (.getfield 24, 3) := by decide +kernel
theorem dX0_putInsert_26 : decode cX0_putInsert 26 = .ok (.dup, 1) := by decide +kernel
theorem dX0_putInsert_27 : decode cX0_putInsert 27 = .ok (.getfield 153, 3) := by decide +kernel
theorem dX0_putInsert_30 : decode cX0_putInsert 30 = .ok (.aload_n 2, 1) := by decide +kernel
theorem dX0_putInsert_31 : decode cX0_putInsert 31 = .ok (.getfield 156, 3) := by decide +kernel
theorem dX0_putInsert_34 : decode cX0_putInsert 34 = .ok (.i2l, 1) := by decide +kernel
theorem dX0_putInsert_35 : decode cX0_putInsert 35 = .ok (.lsub, 1) := by decide +kernel
theorem dX0_putInsert_36 : decode cX0_putInsert 36 = .ok (.putfield 153, 3) := by decide +kernel
theorem dX0_putInsert_39 : decode cX0_putInsert 39 = .ok (.aload_n 0, 1) := by decide +kernel
theorem dX0_putInsert_40 : decode cX0_putInsert 40 = .ok (.getfield 32, 3) := by decide +kernel
theorem dX0_putInsert_43 : decode cX0_putInsert 43 = .ok (.aload_n 2, 1) := by decide +kernel
theorem dX0_putInsert_44 : decode cX0_putInsert 44 = .ok (.getfield 148, 3) := by decide +kernel
theorem dX0_putInsert_47 : decode cX0_putInsert 47 = .ok (.baload, 1) := by decide +kernel
theorem dX0_putInsert_48 : decode cX0_putInsert 48 = .ok (.ifCond .eq 7, 3) := by decide +kernel
theorem dX0_putInsert_51 : decode cX0_putInsert 51 = .ok (.iconst 0, 1) := by decide +kernel
theorem dX0_putInsert_52 : decode cX0_putInsert 52 = .ok (.goto 9, 3) := by decide +kernel
theorem dX0_putInsert_55 : decode cX0_putInsert 55 = .ok (.aload_n 0, 1) := by decide +kernel
theorem dX0_putInsert_56 : decode cX0_putInsert 56 = .ok (.aload_n 1, 1) := by decide +kernel
theorem dX0_putInsert_57 : decode cX0_putInsert 57 = .ok (.aload_n 2, 1) := by decide +kernel
theorem dX0_putInsert_58 : decode cX0_putInsert 58 = .ok (.invokevirtual 159, 3) := by decide +kernel
theorem dX0_putInsert_61 : decode cX0_putInsert 61 = .ok (.istore_n 3, 1) := by decide +kernel
theorem dX0_putInsert_62 : decode cX0_putInsert 62 = .ok (.aload_n 0, 1) := by decide +kernel
theorem dX0_putInsert_63 : decode cX0_putInsert 63 = .ok (.getfield 24, 3) := by decide +kernel
theorem dX0_putInsert_66 : decode cX0_putInsert 66 = .ok (.getfield 162, 3) := by decide +kernel
theorem dX0_putInsert_69 : decode cX0_putInsert 69 = .ok (.aload_n 2, 1) := by decide +kernel
theorem dX0_putInsert_70 : decode cX0_putInsert 70 = .ok (.getfield 148, 3) := by decide +kernel
theorem dX0_putInsert_73 : decode cX0_putInsert 73 = .ok (.dup2, 1) := by decide +kernel
theorem dX0_putInsert_74 : decode cX0_putInsert 74 = .ok (.laload, 1) := by decide +kernel
theorem dX0_putInsert_75 : decode cX0_putInsert 75 = .ok (.iload_n 3, 1) := by decide +kernel
theorem dX0_putInsert_76 : decode cX0_putInsert 76 = .ok (.i2l, 1) := by decide +kernel
theorem dX0_putInsert_77 : decode cX0_putInsert 77 = .ok (.ladd, 1) := by decide +kernel
theorem dX0_putInsert_78 : decode cX0_putInsert 78 = .ok (.lastore, 1) := by decide +kernel
theorem dX0_putInsert_79 : decode cX0_putInsert 79 = .ok (.aload_n 0, 1) := by decide +kernel
theorem dX0_putInsert_80 : decode cX0_putInsert 80 = .ok (.getfield 24, 3) := by decide +kernel
theorem dX0_putInsert_83 : decode cX0_putInsert 83 = .ok (.dup, 1) := by decide +kernel
theorem dX0_putInsert_84 : decode cX0_putInsert 84 = .ok (.getfield 153, 3) := by decide +kernel
theorem dX0_putInsert_87 : decode cX0_putInsert 87 = .ok (.aload_n 2, 1) := by decide +kernel
theorem dX0_putInsert_88 : decode cX0_putInsert 88 = .ok (.iload_n 3, 1) := by decide +kernel
theorem dX0_putInsert_89 : decode cX0_putInsert 89 = .ok (.i2l, 1) := by decide +kernel
theorem dX0_putInsert_90 : decode cX0_putInsert 90 = .ok (.invokevirtual 165, 3) := by decide +kernel
theorem dX0_putInsert_93 : decode cX0_putInsert 93 = .ok (.lsub, 1) := by decide +kernel
theorem dX0_putInsert_94 : decode cX0_putInsert 94 = .ok (.putfield 153, 3) := by decide +kernel
theorem dX0_putInsert_97 : decode cX0_putInsert 97 = .ok (.iload_n 3, 1) := by decide +kernel
theorem dX0_putInsert_98 : decode cX0_putInsert 98 = .ok (.aload_n 1, 1) := by decide +kernel
theorem dX0_putInsert_99 : decode cX0_putInsert 99 = .ok (.getfield 169, 3) := by decide +kernel
theorem dX0_putInsert_102 : decode cX0_putInsert 102 = .ok (.if_icmp .ge 27, 3) := by decide +kernel
theorem dX0_putInsert_105 : decode cX0_putInsert 105 = .ok (.aload_n 0, 1) := by decide +kernel
theorem dX0_putInsert_106 : decode cX0_putInsert 106 = .ok (.getfield 32, 3) := by decide +kernel
theorem dX0_putInsert_109 : decode cX0_putInsert 109 = .ok (.aload_n 2, 1) := by decide +kernel
theorem dX0_putInsert_110 : decode cX0_putInsert 110 = .ok (.getfield 148, 3) := by decide +kernel
theorem dX0_putInsert_113 : decode cX0_putInsert 113 = .ok (.iconst 1, 1) := by decide +kernel
theorem dX0_putInsert_114 : decode cX0_putInsert 114 = .ok (.bastore, 1) := by decide +kernel
theorem dX0_putInsert_115 : decode cX0_putInsert 115 = .ok (.aload_n 0, 1) := by decide +kernel
theorem dX0_putInsert_116 : decode cX0_putInsert 116 = .ok (.dup, 1) := by decide +kernel
theorem dX0_putInsert_117 : decode cX0_putInsert 117 = .ok (.getfield 57, 3) := by decide +kernel
theorem dX0_putInsert_120 : decode cX0_putInsert 120 = .ok (.aload_n 2, 1) := by decide +kernel
theorem dX0_putInsert_121 : decode cX0_putInsert 121 = .ok (.getfield 172, 3) := by decide +kernel
theorem dX0_putInsert_124 : decode cX0_putInsert 124 = .ok (.i2l, 1) := by decide +kernel
theorem dX0_putInsert_125 : decode cX0_putInsert 125 = .ok (.ladd, 1) := by decide +kernel
theorem dX0_putInsert_126 : decode cX0_putInsert 126 = .ok (.putfield 57, 3) := by decide +kernel
theorem dX0_putInsert_129 : decode cX0_putInsert 129 = .ok (.iload_n 3, 1) := by decide +kernel
theorem dX0_putInsert_130 : decode cX0_putInsert 130 = .ok (.ireturn, 1) := by decide +kernel
theorem dX0_partThatFits_0 : decode cX0_partThatFits 0 = .ok (.aload_n 0, 1) := by decide +kernel
theorem dX0_partThatFits_1 : decode cX0_partThatFits 1 = .ok (.getfield 24, 3) := by decide +kernel
theorem dX0_partThatFits_4 : decode cX0_partThatFits 4 = .ok (.getfield 153, 3) := by decide +kernel
theorem dX0_partThatFits_7 : decode cX0_partThatFits 7 = .ok (.aload_n 0, 1) := by decide +kernel
theorem dX0_partThatFits_8 : decode cX0_partThatFits 8 = .ok (.getfield 24, 3) := by decide +kernel
theorem dX0_partThatFits_11 : decode cX0_partThatFits 11 = .ok (.getfield 142, 3) := by decide +kernel
theorem dX0_partThatFits_14 : decode cX0_partThatFits 14 = .ok (.lsub, 1) := by decide +kernel
theorem dX0_partThatFits_15 : decode cX0_partThatFits 15 = .ok (.aload_n 0, 1) := by decide +kernel
theorem dX0_partThatFits_16 : decode cX0_partThatFits 16 = .ok (.getfield 24, 3) := by decide +kernel
theorem dX0_partThatFits_19 : decode cX0_partThatFits 19 = .ok (.getfield 175, 3) := by decide +kernel
theorem dX0_partThatFits_22 : decode cX0_partThatFits 22 = .ok (.lsub, 1) := by decide +kernel
theorem dX0_partThatFits_23 : decode cX0_partThatFits 23 = .ok (.lstore_n 3, 1) := by decide +kernel
theorem dX0_partThatFits_24 : decode cX0_partThatFits 24 = .ok (.aload_n 2, 1) := by decide +kernel
theorem dX0_partThatFits_25 : decode cX0_partThatFits 25 = .ok (.getfield 177, 3) := by decide +kernel
theorem dX0_partThatFits_28 : decode cX0_partThatFits 28 = .ok (.i2l, 1) := by decide +kernel
theorem dX0_partThatFits_29 : decode cX0_partThatFits 29 = .ok (.aload_n 0, 1) := by decide +kernel
theorem dX0_partThatFits_30 : decode cX0_partThatFits 30 = .ok (.getfield 24, 3) := by decide +kernel
theorem dX0_partThatFits_33 : decode cX0_partThatFits 33 = .ok (.getfield 162, 3) := by decide +kernel
theorem dX0_partThatFits_36 : decode cX0_partThatFits 36 = .ok (.aload_n 2, 1) := by decide +kernel
theorem dX0_partThatFits_37 : decode cX0_partThatFits 37 = .ok (.getfield 148, 3) := by decide +kernel
theorem dX0_partThatFits_40 : decode cX0_partThatFits 40 = .ok (.laload, 1) := by decide +kernel
theorem dX0_partThatFits_41 : decode cX0_partThatFits 41 = .ok (.lsub, 1) := by decide +kernel
theorem dX0_partThatFits_42 : decode cX0_partThatFits 42 = .ok (.lstore 5, 2) := by decide +kernel
theorem dX0_partThatFits_44 : decode cX0_partThatFits 44 = .ok (.aload_n 2, 1) := by decide +kernel
theorem dX0_partThatFits_45 : decode cX0_partThatFits 45 = .ok (.aload_n 1, 1) := by decide +kernel
theorem dX0_partThatFits_46 : decode cX0_partThatFits 46 = .ok (.getfield 169, 3) := by decide +kernel
theorem dX0_partThatFits_49 : decode cX0_partThatFits 49 = .ok (.i2l, 1) := by decide +kernel
theorem dX0_partThatFits_50 : decode cX0_partThatFits 50 = .ok (.invokevirtual 165, 3) := by decide +kernel
theorem dX0_partThatFits_53 : decode cX0_partThatFits 53 = .ok (.lstore 7, 2) := by decide +kernel
theorem dX0_partThatFits_55 : decode cX0_partThatFits 55 = .ok (.lload 7, 2) := by decide +kernel
theorem dX0_partThatFits_57 : decode cX0_partThatFits 57 = .ok (.lconst 0, 1) := by decide +kernel
theorem dX0_partThatFits_58 : decode cX0_partThatFits 58 = .ok (.lcmp, 1) := by decide +kernel
theorem dX0_partThatFits_59 : decode cX0_partThatFits 59 = .ok (.ifCond .eq 18, 3) := by decide +kernel
theorem dX0_partThatFits_62 : decode cX0_partThatFits 62 = .ok (.lload 7, 2) := by decide +kernel
theorem dX0_partThatFits_64 : decode cX0_partThatFits 64 = .ok (.lload_n 3, 1) := by decide +kernel
theorem dX0_partThatFits_65 : decode cX0_partThatFits 65 = .ok (.aload_n 0, 1) := by decide +kernel
theorem dX0_partThatFits_66 : decode cX0_partThatFits 66 = .ok (.getfield 24, 3) := by decide +kernel
theorem dX0_partThatFits_69 : decode cX0_partThatFits 69 = .ok (.getfield 137, 3) := by decide +kernel
theorem dX0_partThatFits_72 : decode cX0_partThatFits 72 = .ok (.ladd, 1) := by decide +kernel
theorem dX0_partThatFits_73 : decode cX0_partThatFits 73 = .ok (.lcmp, 1) := by decide +kernel
theorem dX0_partThatFits_74 : decode cX0_partThatFits 74 = .ok (.ifCond .gt 19, 3) := by decide +kernel
theorem dX0_partThatFits_77 : decode cX0_partThatFits 77 = .ok (.aload_n 1, 1) := by decide +kernel
theorem dX0_partThatFits_78 : decode cX0_partThatFits 78 = .ok (.getfield 169, 3) := by decide +kernel
theorem dX0_partThatFits_81 : decode cX0_partThatFits 81 = .ok (.i2l, 1) := by decide +kernel
theorem dX0_partThatFits_82 : decode cX0_partThatFits 82 = .ok (.lload 5, 2) := by decide +kernel
theorem dX0_partThatFits_84 : decode cX0_partThatFits 84 = .ok (.lcmp, 1) := by decide +kernel
theorem dX0_partThatFits_85 : decode cX0_partThatFits 85 = .ok (.ifCond .gt 8, 3) := by decide +kernel
theorem dX0_partThatFits_88 : decode cX0_partThatFits 88 = .ok (.aload_n 1, 1) := by decide +kernel
theorem dX0_partThatFits_89 : decode cX0_partThatFits 89 = .ok (.getfield 169, 3) := by decide +kernel
theorem dX0_partThatFits_92 : decode cX0_partThatFits 92 = .ok (.ireturn, 1) := by decide +kernel
theorem dX0_partThatFits_93 : decode cX0_partThatFits 93 = .ok (.aload_n 1, 1) := by decide +kernel
theorem dX0_partThatFits_94 : decode cX0_partThatFits 94 = .ok (.getfield 180, 3) := by decide +kernel
theorem dX0_partThatFits_97 : decode cX0_partThatFits 97 = .ok (.ifCond .ne 5, 3) := by decide +kernel
theorem dX0_partThatFits_100 : decode cX0_partThatFits 100 = .ok (.iconst 0, 1) := by decide +kernel
theorem dX0_partThatFits_101 : decode cX0_partThatFits 101 = .ok (.ireturn, 1) := by decide +kernel
theorem dX0_partThatFits_102 : decode cX0_partThatFits 102 = .ok (.aload_n 1, 1) := by decide +kernel
theorem dX0_partThatFits_103 : decode cX0_partThatFits 103 = .ok (.getfield 169, 3) := by decide +kernel
theorem dX0_partThatFits_106 : decode cX0_partThatFits 106 = .ok (.iconst 1, 1) := by decide +kernel
theorem dX0_partThatFits_107 : decode cX0_partThatFits 107 = .ok (.isub, 1) := by decide +kernel
theorem dX0_partThatFits_108 : decode cX0_partThatFits 108 = .ok (.i2l, 1) := by decide +kernel
theorem dX0_partThatFits_109 : decode cX0_partThatFits 109 = .ok (.lload 5, 2) := by decide +kernel
theorem dX0_partThatFits_111 : decode cX0_partThatFits 111 = .ok (.invokestatic 183, 3) := by decide +kernel
theorem dX0_partThatFits_114 : decode cX0_partThatFits 114 = .ok (.lstore 9, 2) := by decide +kernel
theorem dX0_partThatFits_116 : decode cX0_partThatFits 116 = .ok (.aload_n 2, 1) := by decide +kernel
theorem dX0_partThatFits_117 : decode cX0_partThatFits 117 = .ok (.getfield 189, 3) := by decide +kernel
theorem dX0_partThatFits_120 : decode cX0_partThatFits 120 = .ok (.ifCond .le 21, 3) := by decide +kernel
theorem dX0_partThatFits_123 : decode cX0_partThatFits 123 = .ok (.lload 9, 2) := by decide +kernel
theorem dX0_partThatFits_125 : decode cX0_partThatFits 125 = .ok (.lload_n 3, 1) := by decide +kernel
theorem dX0_partThatFits_126 : decode cX0_partThatFits 126 = .ok (.ldc2_w 192, 3) := by decide +kernel
theorem dX0_partThatFits_129 : decode cX0_partThatFits 129 = .ok (.lmul, 1) := by decide +kernel
theorem dX0_partThatFits_130 : decode cX0_partThatFits 130 = .ok (.aload_n 2, 1) := by decide +kernel
theorem dX0_partThatFits_131 : decode cX0_partThatFits 131 = .ok (.getfield 189, 3) := by decide +kernel
theorem dX0_partThatFits_134 : decode cX0_partThatFits 134 = .ok (.i2l, 1) := by decide +kernel
theorem dX0_partThatFits_135 : decode cX0_partThatFits 135 = .ok (.ldiv, 1) := by decide +kernel
theorem dX0_partThatFits_136 : decode cX0_partThatFits 136 = .ok (.invokestatic 183, 3) := by decide +kernel
theorem dX0_partThatFits_139 : decode cX0_partThatFits 139 = .ok (.lstore 9, 2) := by decide +kernel
theorem dX0_partThatFits_141 : decode cX0_partThatFits 141 = .ok (.lload 9, 2) := by decide +kernel
theorem dX0_partThatFits_143 : decode cX0_partThatFits 143 = .ok (.lconst 1, 1) := by decide +kernel
theorem dX0_partThatFits_144 : decode cX0_partThatFits 144 = .ok (.lcmp, 1) := by decide +kernel
theorem dX0_partThatFits_145 : decode cX0_partThatFits 145 = .ok (.ifCond .ge 7, 3) := by decide +kernel
theorem dX0_partThatFits_148 : decode cX0_partThatFits 148 = .ok (.iconst 0, 1) := by decide +kernel
theorem dX0_partThatFits_149 : decode cX0_partThatFits 149 = .ok (.goto 6, 3) := by decide +kernel
theorem dX0_partThatFits_152 : decode cX0_partThatFits 152 = .ok (.lload 9, 2) := by decide +kernel
theorem dX0_partThatFits_154 : decode cX0_partThatFits 154 = .ok (.l2i, 1) := by decide +kernel
theorem dX0_partThatFits_155 : decode cX0_partThatFits 155 = .ok (.ireturn, 1) := by decide +kernel
theorem dX1_init_0 : decode cX1_init 0 = .ok (.aload_n 0, 1) := by decide +kernel
theorem dX1_init_1 : decode cX1_init 1 = .ok (.invokespecial 1, 3) := by decide +kernel
theorem dX1_init_4 : decode cX1_init 4 = .ok (.aload_n 0, 1) := by decide +kernel
theorem dX1_init_5 : decode cX1_init 5 = .ok (.iload_n 1, 1) := by decide +kernel
theorem dX1_init_6 : decode cX1_init 6 = .ok (.putfield 7, 3) := by decide +kernel
theorem dX1_init_9 : decode cX1_init 9 = .ok (.aload_n 0, 1) := by decide +kernel
theorem dX1_init_10 : decode cX1_init 10 = .ok (.iload_n 2, 1) := by decide +kernel
theorem dX1_init_11 : decode cX1_init 11 = .ok (.putfield 13, 3) := by decide +kernel
theorem dX1_init_14 : decode cX1_init 14 = .ok (.aload_n 0, 1) := by decide +kernel
theorem dX1_init_15 : decode cX1_init 15 = .ok (.iload_n 3, 1) := by decide +kernel
theorem dX1_init_16 : decode cX1_init 16 = .ok (.putfield 16, 3) := by decide +kernel
theorem dX1_init_19 : decode cX1_init 19 = .ok (.aload_n 0, 1) := by decide +kernel
theorem dX1_init_20 : decode cX1_init 20 = .ok (.iload 4, 2) := by decide +kernel
theorem dX1_init_22 : decode cX1_init 22 = .ok (.putfield 19, 3) := by decide +kernel
theorem dX1_init_25 : decode cX1_init 25 = .ok (.aload_n 0, 1) := by decide +kernel
theorem dX1_init_26 : decode cX1_init 26 = .ok (.iload 5, 2) := by decide +kernel
theorem dX1_init_28 : decode cX1_init 28 = .ok (.putfield 22, 3) := by decide +kernel
theorem dX1_init_31 : decode cX1_init 31 = .ok (.return_, 1) := by decide +kernel
theorem dX1_byFactor_0 : decode cX1_byFactor 0 = .ok (.lload_n 1, 1) := by decide +kernel
theorem dX1_byFactor_1 : decode cX1_byFactor 1 = .ok (.aload_n 0, 1) := by decide +kernel
theorem dX1_byFactor_2 : decode cX1_byFactor 2 = .ok (.getfield 16, 3) := by decide +kernel
theorem dX1_byFactor_5 : decode cX1_byFactor 5 = .ok (.i2l, 1) := by decide +kernel
theorem dX1_byFactor_6 : decode cX1_byFactor 6 = .ok (.lmul, 1) := by decide +kernel
theorem dX1_byFactor_7 : decode cX1_byFactor 7 = .ok (.ldc2_w 25, 3) := by decide +kernel
theorem dX1_byFactor_10 : decode cX1_byFactor 10 = .ok (.ldiv, 1) := by decide +kernel
theorem dX1_byFactor_11 : decode cX1_byFactor 11 = .ok (.lreturn, 1) := by decide +kernel
theorem dX2_init_0 : decode cX2_init 0 = .ok (.aload_n 0, 1) := by decide +kernel
theorem dX2_init_1 : decode cX2_init 1 = .ok (.invokespecial 1, 3) := by decide +kernel
theorem dX2_init_4 : decode cX2_init 4 = .ok (.aload_n 0, 1) := by decide +kernel
theorem dX2_init_5 : decode cX2_init 5 = .ok (.iload_n 1, 1) := by decide +kernel
theorem dX2_init_6 : decode cX2_init 6 = .ok (.putfield 7, 3) := by decide +kernel
theorem dX2_init_9 : decode cX2_init 9 = .ok (.aload_n 0, 1) := by decide +kernel
theorem dX2_init_10 : decode cX2_init 10 = .ok (.aload_n 2, 1) := by decide +kernel
theorem dX2_init_11 : decode cX2_init 11 = .ok (.putfield 13, 3) := by decide +kernel
theorem dX2_init_14 : decode cX2_init 14 = .ok (.aload_n 0, 1) := by decide +kernel
theorem dX2_init_15 : decode cX2_init 15 = .ok (.iload_n 3, 1) := by decide +kernel
theorem dX2_init_16 : decode cX2_init 16 = .ok (.putfield 17, 3) := by decide +kernel
theorem dX2_init_19 : decode cX2_init 19 = .ok (.return_, 1) := by decide +kernel
theorem dX2_price_0 : decode cX2_price 0 = .ok (.aload_n 0, 1) := by decide +kernel
theorem dX2_price_1 : decode cX2_price 1 = .ok (.getfield 13, 3) := by decide +kernel
theorem dX2_price_4 : decode cX2_price 4 = .ok (.getstatic 20, 3) := by decide +kernel
theorem dX2_price_7 : decode cX2_price 7 = .ok (.if_acmp .ne 10, 3) := by decide +kernel
theorem dX2_price_10 : decode cX2_price 10 = .ok (.aload_n 0, 1) := by decide +kernel
theorem dX2_price_11 : decode cX2_price 11 = .ok (.getfield 17, 3) := by decide +kernel
theorem dX2_price_14 : decode cX2_price 14 = .ok (.goto 4, 3) := by decide +kernel
theorem dX2_price_17 : decode cX2_price 17 = .ok (.iconst 0, 1) := by decide +kernel
theorem dX2_price_18 : decode cX2_price 18 = .ok (.ireturn, 1) := by decide +kernel
theorem dX2_startTally_0 : decode cX2_startTally 0 = .ok (.aload_n 0, 1) := by decide +kernel
theorem dX2_startTally_1 : decode cX2_startTally 1 = .ok (.aload_n 0, 1) := by decide +kernel
theorem dX2_startTally_2 : decode cX2_startTally 2 = .ok (.getfield 25, 3) := by decide +kernel
theorem dX2_startTally_5 : decode cX2_startTally 5 = .ok (.ifCond .eq 7, 3) := by decide +kernel
theorem dX2_startTally_8 : decode cX2_startTally 8 = .ok (.iconst 1, 1) := by decide +kernel
theorem dX2_startTally_9 : decode cX2_startTally 9 = .ok (.goto 4, 3) := by decide +kernel
theorem dX2_startTally_12 : decode cX2_startTally 12 = .ok (.iconst 0, 1) := by decide +kernel
theorem dX2_startTally_13 : decode cX2_startTally 13 = .ok (.putfield 29, 3) := by decide +kernel
theorem dX2_startTally_16 : decode cX2_startTally 16 = .ok (.aload_n 0, 1) := by decide +kernel
theorem dX2_startTally_17 : decode cX2_startTally 17 = .ok (.lconst 0, 1) := by decide +kernel
theorem dX2_startTally_18 : decode cX2_startTally 18 = .ok (.putfield 32, 3) := by decide +kernel
theorem dX2_startTally_21 : decode cX2_startTally 21 = .ok (.return_, 1) := by decide +kernel
theorem dX2_tallyOnPage_0 : decode cX2_tallyOnPage 0 = .ok (.aload_n 0, 1) := by decide +kernel
theorem dX2_tallyOnPage_1 : decode cX2_tallyOnPage 1 = .ok (.getfield 13, 3) := by decide +kernel
theorem dX2_tallyOnPage_4 : decode cX2_tallyOnPage 4 = .ok (.getstatic 36, 3) := by decide +kernel
theorem dX2_tallyOnPage_7 : decode cX2_tallyOnPage 7 = .ok (.if_acmp .ne 17, 3) := by decide +kernel
theorem dX2_tallyOnPage_10 : decode cX2_tallyOnPage 10 = .ok (.aload_n 0, 1) := by decide +kernel
theorem dX2_tallyOnPage_11 : decode cX2_tallyOnPage 11 = .ok (.dup, 1) := by decide +kernel
theorem dX2_tallyOnPage_12 : decode cX2_tallyOnPage 12 = .ok (.getfield 32, 3) := by decide +kernel
theorem dX2_tallyOnPage_15 : decode cX2_tallyOnPage 15 = .ok (.iload_n 1, 1) := by decide +kernel
theorem dX2_tallyOnPage_16 : decode cX2_tallyOnPage 16 = .ok (.i2l, 1) := by decide +kernel
theorem dX2_tallyOnPage_17 : decode cX2_tallyOnPage 17 = .ok (.ladd, 1) := by decide +kernel
theorem dX2_tallyOnPage_18 : decode cX2_tallyOnPage 18 = .ok (.putfield 32, 3) := by decide +kernel
theorem dX2_tallyOnPage_21 : decode cX2_tallyOnPage 21 = .ok (.goto 13, 3) := by decide +kernel
theorem dX2_tallyOnPage_24 : decode cX2_tallyOnPage 24 = .ok (.aload_n 0, 1) := by decide +kernel
theorem dX2_tallyOnPage_25 : decode cX2_tallyOnPage 25 = .ok (.dup, 1) := by decide +kernel
theorem dX2_tallyOnPage_26 : decode cX2_tallyOnPage 26 = .ok (.getfield 29, 3) := by decide +kernel
theorem dX2_tallyOnPage_29 : decode cX2_tallyOnPage 29 = .ok (.iconst 1, 1) := by decide +kernel
theorem dX2_tallyOnPage_30 : decode cX2_tallyOnPage 30 = .ok (.iadd, 1) := by decide +kernel
theorem dX2_tallyOnPage_31 : decode cX2_tallyOnPage 31 = .ok (.putfield 29, 3) := by decide +kernel
theorem dX2_tallyOnPage_34 : decode cX2_tallyOnPage 34 = .ok (.return_, 1) := by decide +kernel
theorem dX2_tallyIsRight_0 : decode cX2_tallyIsRight 0 = .ok (.aload_n 0, 1) := by decide +kernel
theorem dX2_tallyIsRight_1 : decode cX2_tallyIsRight 1 = .ok (.getfield 13, 3) := by decide +kernel
theorem dX2_tallyIsRight_4 : decode cX2_tallyIsRight 4 = .ok (.getstatic 36, 3) := by decide +kernel
theorem dX2_tallyIsRight_7 : decode cX2_tallyIsRight 7 = .ok (.if_acmp .eq 17, 3) := by decide +kernel
theorem dX2_tallyIsRight_10 : decode cX2_tallyIsRight 10 = .ok (.aload_n 0, 1) := by decide +kernel
theorem dX2_tallyIsRight_11 : decode cX2_tallyIsRight 11 = .ok (.getfield 29, 3) := by decide +kernel
theorem dX2_tallyIsRight_14 : decode cX2_tallyIsRight 14 = .ok (.iconst 1, 1) := by decide +kernel
theorem dX2_tallyIsRight_15 : decode cX2_tallyIsRight 15 = .ok (.if_icmp .ne 7, 3) := by decide +kernel
theorem dX2_tallyIsRight_18 : decode cX2_tallyIsRight 18 = .ok (.iconst 1, 1) := by decide +kernel
theorem dX2_tallyIsRight_19 : decode cX2_tallyIsRight 19 = .ok (.goto 4, 3) := by decide +kernel
theorem dX2_tallyIsRight_22 : decode cX2_tallyIsRight 22 = .ok (.iconst 0, 1) := by decide +kernel
theorem dX2_tallyIsRight_23 : decode cX2_tallyIsRight 23 = .ok (.ireturn, 1) := by decide +kernel
theorem dX2_tallyIsRight_24 : decode cX2_tallyIsRight 24 = .ok (.aload_n 0, 1) := by decide +kernel
theorem dX2_tallyIsRight_25 : decode cX2_tallyIsRight 25 = .ok (.getfield 29, 3) := by decide +kernel
theorem dX2_tallyIsRight_28 : decode cX2_tallyIsRight 28 = .ok (.aload_n 0, 1) := by decide +kernel
theorem dX2_tallyIsRight_29 : decode cX2_tallyIsRight 29 = .ok (.getfield 39, 3) := by decide +kernel
theorem dX2_tallyIsRight_32 : decode cX2_tallyIsRight 32 = .ok (.ifCond .le 7, 3) := by decide +kernel
theorem dX2_tallyIsRight_35 : decode cX2_tallyIsRight 35 = .ok (.iconst 1, 1) := by decide +kernel
theorem dX2_tallyIsRight_36 : decode cX2_tallyIsRight 36 = .ok (.goto 4, 3) := by decide +kernel
theorem dX2_tallyIsRight_39 : decode cX2_tallyIsRight 39 = .ok (.iconst 0, 1) := by decide +kernel
theorem dX2_tallyIsRight_40 : decode cX2_tallyIsRight 40 = .ok (.if_icmp .ne 26, 3) := by decide +kernel
theorem dX2_tallyIsRight_43 : decode cX2_tallyIsRight 43 = .ok (.aload_n 0, 1) := by decide +kernel
theorem dX2_tallyIsRight_44 : decode cX2_tallyIsRight 44 = .ok (.getfield 32, 3) := by decide +kernel
theorem dX2_tallyIsRight_47 : decode cX2_tallyIsRight 47 = .ok (.aload_n 0, 1) := by decide +kernel
theorem dX2_tallyIsRight_48 : decode cX2_tallyIsRight 48 = .ok (.getfield 39, 3) := by decide +kernel
theorem dX2_tallyIsRight_51 : decode cX2_tallyIsRight 51 = .ok (.i2l, 1) := by decide +kernel
theorem dX2_tallyIsRight_52 : decode cX2_tallyIsRight 52 = .ok (.ladd, 1) := by decide +kernel
theorem dX2_tallyIsRight_53 : decode cX2_tallyIsRight 53 = .ok (.aload_n 0, 1) := by decide +kernel
theorem dX2_tallyIsRight_54 : decode cX2_tallyIsRight 54 = .ok (.getfield 17, 3) := by decide +kernel
theorem dX2_tallyIsRight_57 : decode cX2_tallyIsRight 57 = .ok (.i2l, 1) := by decide +kernel
theorem dX2_tallyIsRight_58 : decode cX2_tallyIsRight 58 = .ok (.lcmp, 1) := by decide +kernel
theorem dX2_tallyIsRight_59 : decode cX2_tallyIsRight 59 = .ok (.ifCond .ne 7, 3) := by decide +kernel
theorem dX2_tallyIsRight_62 : decode cX2_tallyIsRight 62 = .ok (.iconst 1, 1) := by decide +kernel
theorem dX2_tallyIsRight_63 : decode cX2_tallyIsRight 63 = .ok (.goto 4, 3) := by decide +kernel
theorem dX2_tallyIsRight_66 : decode cX2_tallyIsRight 66 = .ok (.iconst 0, 1) := by decide +kernel
theorem dX2_tallyIsRight_67 : decode cX2_tallyIsRight 67 = .ok (.ireturn, 1) := by decide +kernel
theorem dX4_init_0 : decode cX4_init 0 = .ok (.aload_n 0, 1) := by decide +kernel
theorem dX4_init_1 : decode cX4_init 1 = .ok (.invokespecial 3, 3) := by decide +kernel
theorem dX4_init_4 : decode cX4_init 4 = .ok (.aload_n 0, 1) := by decide +kernel
theorem dX4_init_5 : decode cX4_init 5 = .ok (.sipush 400, 3) := by decide +kernel
theorem dX4_init_8 : decode cX4_init 8 = .ok (.anewarray 9, 3) := by decide +kernel
theorem dX4_init_11 : decode cX4_init 11 = .ok (.putfield 11, 3) := by decide +kernel
theorem dX4_init_14 : decode cX4_init 14 = .ok (.return_, 1) := by decide +kernel
theorem dX4_look_0 : decode cX4_look 0 = .ok (.iload_n 1, 1) := by decide +kernel
theorem dX4_look_1 : decode cX4_look 1 = .ok (.ifCond .lt 29, 3) := by decide +kernel
theorem dX4_look_4 : decode cX4_look 4 = .ok (.iload_n 1, 1) := by decide +kernel
theorem dX4_look_5 : decode cX4_look 5 = .ok (.aload_n 0, 1) := by decide +kernel
theorem dX4_look_6 : decode cX4_look 6 = .ok (.getfield 17, 3) := by decide +kernel
theorem dX4_look_9 : decode cX4_look 9 = .ok (.if_icmp .ge 21, 3) := by decide +kernel
theorem dX4_look_12 : decode cX4_look 12 = .ok (.aload_n 0, 1) := by decide +kernel
theorem dX4_look_13 : decode cX4_look 13 = .ok (.getfield 11, 3) := by decide +kernel
theorem dX4_look_16 : decode cX4_look 16 = .ok (.aload_n 0, 1) := by decide +kernel
theorem dX4_look_17 : decode cX4_look 17 = .ok (.getfield 21, 3) := by decide +kernel
theorem dX4_look_20 : decode cX4_look 20 = .ok (.iload_n 1, 1) := by decide +kernel
theorem dX4_look_21 : decode cX4_look 21 = .ok (.iadd, 1) := by decide +kernel
theorem dX4_look_22 : decode cX4_look 22 = .ok (.sipush 400, 3) := by decide +kernel
theorem dX4_look_25 : decode cX4_look 25 = .ok (.irem, 1) := by decide +kernel
theorem dX4_look_26 : decode cX4_look 26 = .ok (.aaload, 1) := by decide +kernel
theorem dX4_look_27 : decode cX4_look 27 = .ok (.goto 4, 3) := by decide +kernel
theorem dX4_look_30 : decode cX4_look 30 = .ok (.aconst_null, 1) := by decide +kernel
theorem dX4_look_31 : decode cX4_look 31 = .ok (.areturn, 1) := by decide +kernel
theorem dX4_addLast_0 : decode cX4_addLast 0 = .ok (.aload_n 0, 1) := by decide +kernel
theorem dX4_addLast_1 : decode cX4_addLast 1 = .ok (.getfield 17, 3) := by decide +kernel
