theorem dX4_addLast_4 : decode cX4_addLast 4 = .ok (.sipush 400, 3) := by decide +kernel
theorem dX4_addLast_7 : decode cX4_addLast 7 = .ok (.if_icmp .ge 32, 3) := by decide +kernel
theorem dX4_addLast_10 : decode cX4_addLast 10 = .ok (.aload_n 0, 1) := by decide +kernel
theorem dX4_addLast_11 : decode cX4_addLast 11 = .ok (.getfield 11, 3) := by decide +kernel
theorem dX4_addLast_14 : decode cX4_addLast 14 = .ok (.aload_n 0, 1) := by decide +kernel
theorem dX4_addLast_15 : decode cX4_addLast 15 = .ok (.getfield 21, 3) := by decide +kernel
theorem dX4_addLast_18 : decode cX4_addLast 18 = .ok (.aload_n 0, 1) := by decide +kernel
theorem dX4_addLast_19 : decode cX4_addLast 19 = .ok (.getfield 17, 3) := by decide +kernel
theorem dX4_addLast_22 : decode cX4_addLast 22 = .ok (.iadd, 1) := by decide +kernel
theorem dX4_addLast_23 : decode cX4_addLast 23 = .ok (.sipush 400, 3) := by decide +kernel
theorem dX4_addLast_26 : decode cX4_addLast 26 = .ok (.irem, 1) := by decide +kernel
theorem dX4_addLast_27 : decode cX4_addLast 27 = .ok (.aload_n 1, 1) := by decide +kernel
theorem dX4_addLast_28 : decode cX4_addLast 28 = .ok (.aastore, 1) := by decide +kernel
theorem dX4_addLast_29 : decode cX4_addLast 29 = .ok (.aload_n 0, 1) := by decide +kernel
theorem dX4_addLast_30 : decode cX4_addLast 30 = .ok (.dup, 1) := by decide +kernel
theorem dX4_addLast_31 : decode cX4_addLast 31 = .ok (.getfield 17, 3) := by decide +kernel
theorem dX4_addLast_34 : decode cX4_addLast 34 = .ok (.iconst 1, 1) := by decide +kernel
theorem dX4_addLast_35 : decode cX4_addLast 35 = .ok (.iadd, 1) := by decide +kernel
theorem dX4_addLast_36 : decode cX4_addLast 36 = .ok (.putfield 17, 3) := by decide +kernel
theorem dX4_addLast_39 : decode cX4_addLast 39 = .ok (.return_, 1) := by decide +kernel
theorem dX4_addFirst_0 : decode cX4_addFirst 0 = .ok (.aload_n 0, 1) := by decide +kernel
theorem dX4_addFirst_1 : decode cX4_addFirst 1 = .ok (.getfield 17, 3) := by decide +kernel
theorem dX4_addFirst_4 : decode cX4_addFirst 4 = .ok (.sipush 400, 3) := by decide +kernel
theorem dX4_addFirst_7 : decode cX4_addFirst 7 = .ok (.if_icmp .ge 41, 3) := by decide +kernel
theorem dX4_addFirst_10 : decode cX4_addFirst 10 = .ok (.aload_n 0, 1) := by decide +kernel
theorem dX4_addFirst_11 : decode cX4_addFirst 11 = .ok (.aload_n 0, 1) := by decide +kernel
theorem dX4_addFirst_12 : decode cX4_addFirst 12 = .ok (.getfield 21, 3) := by decide +kernel
theorem dX4_addFirst_15 : decode cX4_addFirst 15 = .ok (.sipush 400, 3) := by decide +kernel
theorem dX4_addFirst_18 : decode cX4_addFirst 18 = .ok (.iadd, 1) := by decide +kernel
theorem dX4_addFirst_19 : decode cX4_addFirst 19 = .ok (.iconst 1, 1) := by decide +kernel
theorem dX4_addFirst_20 : decode cX4_addFirst 20 = .ok (.isub, 1) := by decide +kernel
theorem dX4_addFirst_21 : decode cX4_addFirst 21 = .ok (.sipush 400, 3) := by decide +kernel
theorem dX4_addFirst_24 : decode cX4_addFirst 24 = .ok (.irem, 1) := by decide +kernel
theorem dX4_addFirst_25 : decode cX4_addFirst 25 = .ok (.putfield 21, 3) := by decide +kernel
theorem dX4_addFirst_28 : decode cX4_addFirst 28 = .ok (.aload_n 0, 1) := by decide +kernel
theorem dX4_addFirst_29 : decode cX4_addFirst 29 = .ok (.getfield 11, 3) := by decide +kernel
theorem dX4_addFirst_32 : decode cX4_addFirst 32 = .ok (.aload_n 0, 1) := by decide +kernel
theorem dX4_addFirst_33 : decode cX4_addFirst 33 = .ok (.getfield 21, 3) := by decide +kernel
theorem dX4_addFirst_36 : decode cX4_addFirst 36 = .ok (.aload_n 1, 1) := by decide +kernel
theorem dX4_addFirst_37 : decode cX4_addFirst 37 = .ok (.aastore, 1) := by decide +kernel
theorem dX4_addFirst_38 : decode cX4_addFirst 38 = .ok (.aload_n 0, 1) := by decide +kernel
theorem dX4_addFirst_39 : decode cX4_addFirst 39 = .ok (.dup, 1) := by decide +kernel
theorem dX4_addFirst_40 : decode cX4_addFirst 40 = .ok (.getfield 17, 3) := by decide +kernel
theorem dX4_addFirst_43 : decode cX4_addFirst 43 = .ok (.iconst 1, 1) := by decide +kernel
theorem dX4_addFirst_44 : decode cX4_addFirst 44 = .ok (.iadd, 1) := by decide +kernel
theorem dX4_addFirst_45 : decode cX4_addFirst 45 = .ok (.putfield 17, 3) := by decide +kernel
theorem dX4_addFirst_48 : decode cX4_addFirst 48 = .ok (.return_, 1) := by decide +kernel
theorem dX4_takeFirst_0 : decode cX4_takeFirst 0 = .ok (.aload_n 0, 1) := by decide +kernel
theorem dX4_takeFirst_1 : decode cX4_takeFirst 1 = .ok (.iconst 0, 1) := by decide +kernel
theorem dX4_takeFirst_2 : decode cX4_takeFirst 2 = .ok (.invokevirtual 24, 3) := by decide +kernel
theorem dX4_takeFirst_5 : decode cX4_takeFirst 5 = .ok (.astore_n 1, 1) := by decide +kernel
theorem dX4_takeFirst_6 : decode cX4_takeFirst 6 = .ok (.aload_n 1, 1) := by decide +kernel
theorem dX4_takeFirst_7 : decode cX4_takeFirst 7 = .ok (.ifnull 27, 3) := by decide +kernel
theorem dX4_takeFirst_10 : decode cX4_takeFirst 10 = .ok (.aload_n 0, 1) := by decide +kernel
theorem dX4_takeFirst_11 : decode cX4_takeFirst 11 = .ok (.aload_n 0, 1) := by decide +kernel
theorem dX4_takeFirst_12 : decode cX4_takeFirst 12 = .ok (.getfield 21, 3) := by decide +kernel
theorem dX4_takeFirst_15 : decode cX4_takeFirst 15 = .ok (.iconst 1, 1) := by decide +kernel
theorem dX4_takeFirst_16 : decode cX4_takeFirst 16 = .ok (.iadd, 1) := by decide +kernel
theorem dX4_takeFirst_17 : decode cX4_takeFirst 17 = .ok (.sipush 400, 3) := by decide +kernel
theorem dX4_takeFirst_20 : decode cX4_takeFirst 20 = .ok (.irem, 1) := by decide +kernel
theorem dX4_takeFirst_21 : decode cX4_takeFirst 21 = .ok (.putfield 21, 3) := by decide +kernel
theorem dX4_takeFirst_24 : decode cX4_takeFirst 24 = .ok (.aload_n 0, 1) := by decide +kernel
theorem dX4_takeFirst_25 : decode cX4_takeFirst 25 = .ok (.dup, 1) := by decide +kernel
theorem dX4_takeFirst_26 : decode cX4_takeFirst 26 = .ok (.getfield 17, 3) := by decide +kernel
theorem dX4_takeFirst_29 : decode cX4_takeFirst 29 = .ok (.iconst 1, 1) := by decide +kernel
theorem dX4_takeFirst_30 : decode cX4_takeFirst 30 = .ok (.isub, 1) := by decide +kernel
theorem dX4_takeFirst_31 : decode cX4_takeFirst 31 = .ok (.putfield 17, 3) := by decide +kernel
theorem dX4_takeFirst_34 : decode cX4_takeFirst 34 = .ok (.aload_n 1, 1) := by decide +kernel
theorem dX4_takeFirst_35 : decode cX4_takeFirst 35 = .ok (.areturn, 1) := by decide +kernel
theorem dX5_init_0 : decode cX5_init 0 = .ok (.aload_n 0, 1) := by decide +kernel
theorem dX5_init_1 : decode cX5_init 1 = .ok (.invokespecial 3, 3) := by decide +kernel
theorem dX5_init_4 : decode cX5_init 4 = .ok (.aload_n 0, 1) := by decide +kernel
theorem dX5_init_5 : decode cX5_init 5 = .ok (.iconst 4, 1) := by decide +kernel
theorem dX5_init_6 : decode cX5_init 6 = .ok (.newarray .long, 2) := by decide +kernel
theorem dX5_init_8 : decode cX5_init 8 = .ok (.putfield 9, 3) := by decide +kernel
theorem dX5_init_11 : decode cX5_init 11 = .ok (.aload_n 0, 1) := by decide +kernel
theorem dX5_init_12 : decode cX5_init 12 = .ok (.iconst 4, 1) := by decide +kernel
theorem dX5_init_13 : decode cX5_init 13 = .ok (.newarray .long, 2) := by decide +kernel
theorem dX5_init_15 : decode cX5_init 15 = .ok (.putfield 15, 3) := by decide +kernel
theorem dX5_init_18 : decode cX5_init 18 = .ok (.return_, 1) := by decide +kernel
theorem dX5_clear_0 : decode cX5_clear 0 = .ok (.aload_n 0, 1) := by decide +kernel
theorem dX5_clear_1 : decode cX5_clear 1 = .ok (.lconst 0, 1) := by decide +kernel
theorem dX5_clear_2 : decode cX5_clear 2 = .ok (.putfield 18, 3) := by decide +kernel
theorem dX5_clear_5 : decode cX5_clear 5 = .ok (.aload_n 0, 1) := by decide +kernel
theorem dX5_clear_6 : decode cX5_clear 6 = .ok (.lload_n 1, 1) := by decide +kernel
theorem dX5_clear_7 : decode cX5_clear 7 = .ok (.putfield 22, 3) := by decide +kernel
theorem dX5_clear_10 : decode cX5_clear 10 = .ok (.aload_n 0, 1) := by decide +kernel
theorem dX5_clear_11 : decode cX5_clear 11 = .ok (.lconst 0, 1) := by decide +kernel
theorem dX5_clear_12 : decode cX5_clear 12 = .ok (.putfield 25, 3) := by decide +kernel
theorem dX5_clear_15 : decode cX5_clear 15 = .ok (.aload_n 0, 1) := by decide +kernel
theorem dX5_clear_16 : decode cX5_clear 16 = .ok (.lconst 0, 1) := by decide +kernel
theorem dX5_clear_17 : decode cX5_clear 17 = .ok (.putfield 28, 3) := by decide +kernel
theorem dX5_clear_20 : decode cX5_clear 20 = .ok (.iconst 0, 1) := by decide +kernel
theorem dX5_clear_21 : decode cX5_clear 21 = .ok (.istore_n 3, 1) := by decide +kernel
theorem dX5_clear_22 : decode cX5_clear 22 = .ok (.iload_n 3, 1) := by decide +kernel
theorem dX5_clear_23 : decode cX5_clear 23 = .ok (.iconst 4, 1) := by decide +kernel
theorem dX5_clear_24 : decode cX5_clear 24 = .ok (.if_icmp .ge 16, 3) := by decide +kernel
theorem dX5_clear_27 : decode cX5_clear 27 = .ok (.aload_n 0, 1) := by decide +kernel
theorem dX5_clear_28 : decode cX5_clear 28 = .ok (.getfield 9, 3) := by decide +kernel
theorem dX5_clear_31 : decode cX5_clear 31 = .ok (.iload_n 3, 1) := by decide +kernel
theorem dX5_clear_32 : decode cX5_clear 32 = .ok (.lconst 0, 1) := by decide +kernel
theorem dX5_clear_33 : decode cX5_clear 33 = .ok (.lastore, 1) := by decide +kernel
theorem dX5_clear_34 : decode cX5_clear 34 = .ok (.iinc 3 1, 3) := by decide +kernel
theorem dX5_clear_37 : decode cX5_clear 37 = .ok (.goto (-15), 3) := by decide +kernel
theorem dX5_clear_40 : decode cX5_clear 40 = .ok (.iconst 0, 1) := by decide +kernel
theorem dX5_clear_41 : decode cX5_clear 41 = .ok (.istore_n 3, 1) := by decide +kernel
theorem dX5_clear_42 : decode cX5_clear 42 = .ok (.iload_n 3, 1) := by decide +kernel
theorem dX5_clear_43 : decode cX5_clear 43 = .ok (.iconst 4, 1) := by decide +kernel
theorem dX5_clear_44 : decode cX5_clear 44 = .ok (.if_icmp .ge 16, 3) := by decide +kernel
theorem dX5_clear_47 : decode cX5_clear 47 = .ok (.aload_n 0, 1) := by decide +kernel
theorem dX5_clear_48 : decode cX5_clear 48 = .ok (.getfield 15, 3) := by decide +kernel
theorem dX5_clear_51 : decode cX5_clear 51 = .ok (.iload_n 3, 1) := by decide +kernel
theorem dX5_clear_52 : decode cX5_clear 52 = .ok (.lconst 0, 1) := by decide +kernel
theorem dX5_clear_53 : decode cX5_clear 53 = .ok (.lastore, 1) := by decide +kernel
theorem dX5_clear_54 : decode cX5_clear 54 = .ok (.iinc 3 1, 3) := by decide +kernel
theorem dX5_clear_57 : decode cX5_clear 57 = .ok (.goto (-15), 3) := by decide +kernel
theorem dX5_clear_60 : decode cX5_clear 60 = .ok (.return_, 1) := by decide +kernel
theorem dX5_copyFrom_0 : decode cX5_copyFrom 0 = .ok (.aload_n 0, 1) := by decide +kernel
theorem dX5_copyFrom_1 : decode cX5_copyFrom 1 = .ok (.aload_n 1, 1) := by decide +kernel
theorem dX5_copyFrom_2 : decode cX5_copyFrom 2 = .ok (.getfield 18, 3) := by decide +kernel
theorem dX5_copyFrom_5 : decode cX5_copyFrom 5 = .ok (.putfield 18, 3) := by decide +kernel
theorem dX5_copyFrom_8 : decode cX5_copyFrom 8 = .ok (.aload_n 0, 1) := by decide +kernel
theorem dX5_copyFrom_9 : decode cX5_copyFrom 9 = .ok (.aload_n 1, 1) := by decide +kernel
theorem dX5_copyFrom_10 : decode cX5_copyFrom 10 = .ok (.getfield 22, 3) := by decide +kernel
theorem dX5_copyFrom_13 : decode cX5_copyFrom 13 = .ok (.putfield 22, 3) := by decide +kernel
theorem dX5_copyFrom_16 : decode cX5_copyFrom 16 = .ok (.aload_n 0, 1) := by decide +kernel
theorem dX5_copyFrom_17 : decode cX5_copyFrom 17 = .ok (.aload_n 1, 1) := by decide +kernel
theorem dX5_copyFrom_18 : decode cX5_copyFrom 18 = .ok (.getfield 25, 3) := by decide +kernel
theorem dX5_copyFrom_21 : decode cX5_copyFrom 21 = .ok (.putfield 25, 3) := by decide +kernel
theorem dX5_copyFrom_24 : decode cX5_copyFrom 24 = .ok (.aload_n 0, 1) := by decide +kernel
theorem dX5_copyFrom_25 : decode cX5_copyFrom 25 = .ok (.aload_n 1, 1) := by decide +kernel
theorem dX5_copyFrom_26 : decode cX5_copyFrom 26 = .ok (.getfield 28, 3) := by decide +kernel
theorem dX5_copyFrom_29 : decode cX5_copyFrom 29 = .ok (.putfield 28, 3) := by decide +kernel
theorem dX5_copyFrom_32 : decode cX5_copyFrom 32 = .ok (.iconst 0, 1) := by decide +kernel
theorem dX5_copyFrom_33 : decode cX5_copyFrom 33 = .ok (.istore_n 2, 1) := by decide +kernel
theorem dX5_copyFrom_34 : decode cX5_copyFrom 34 = .ok (.iload_n 2, 1) := by decide +kernel
theorem dX5_copyFrom_35 : decode cX5_copyFrom 35 = .ok (.iconst 4, 1) := by decide +kernel
theorem dX5_copyFrom_36 : decode cX5_copyFrom 36 = .ok (.if_icmp .ge 21, 3) := by decide +kernel
theorem dX5_copyFrom_39 : decode cX5_copyFrom 39 = .ok (.aload_n 0, 1) := by decide +kernel
theorem dX5_copyFrom_40 : decode cX5_copyFrom 40 = .ok (.getfield 9, 3) := by decide +kernel
theorem dX5_copyFrom_43 : decode cX5_copyFrom 43 = .ok (.iload_n 2, 1) := by decide +kernel
theorem dX5_copyFrom_44 : decode cX5_copyFrom 44 = .ok (.aload_n 1, 1) := by decide +kernel
theorem dX5_copyFrom_45 : decode cX5_copyFrom 45 = .ok (.getfield 9, 3) := by decide +kernel
theorem dX5_copyFrom_48 : decode cX5_copyFrom 48 = .ok (.iload_n 2, 1) := by decide +kernel
theorem dX5_copyFrom_49 : decode cX5_copyFrom 49 = .ok (.laload, 1) := by decide +kernel
theorem dX5_copyFrom_50 : decode cX5_copyFrom 50 = .ok (.lastore, 1) := by decide +kernel
theorem dX5_copyFrom_51 : decode cX5_copyFrom 51 = .ok (.iinc 2 1, 3) := by decide +kernel
theorem dX5_copyFrom_54 : decode cX5_copyFrom 54 = .ok (.goto (-20), 3) := by decide +kernel
theorem dX5_copyFrom_57 : decode cX5_copyFrom 57 = .ok (.iconst 0, 1) := by decide +kernel
theorem dX5_copyFrom_58 : decode cX5_copyFrom 58 = .ok (.istore_n 2, 1) := by decide +kernel
theorem dX5_copyFrom_59 : decode cX5_copyFrom 59 = .ok (.iload_n 2, 1) := by decide +kernel
theorem dX5_copyFrom_60 : decode cX5_copyFrom 60 = .ok (.iconst 4, 1) := by decide +kernel
theorem dX5_copyFrom_61 : decode cX5_copyFrom 61 = .ok (.if_icmp .ge 21, 3) := by decide +kernel
theorem dX5_copyFrom_64 : decode cX5_copyFrom 64 = .ok (.aload_n 0, 1) := by decide +kernel
theorem dX5_copyFrom_65 : decode cX5_copyFrom 65 = .ok (.getfield 15, 3) := by decide +kernel
theorem dX5_copyFrom_68 : decode cX5_copyFrom 68 = .ok (.iload_n 2, 1) := by decide +kernel
theorem dX5_copyFrom_69 : decode cX5_copyFrom 69 = .ok (.aload_n 1, 1) := by decide +kernel
theorem dX5_copyFrom_70 : decode cX5_copyFrom 70 = .ok (.getfield 15, 3) := by decide +kernel
theorem dX5_copyFrom_73 : decode cX5_copyFrom 73 = .ok (.iload_n 2, 1) := by decide +kernel
theorem dX5_copyFrom_74 : decode cX5_copyFrom 74 = .ok (.laload, 1) := by decide +kernel
theorem dX5_copyFrom_75 : decode cX5_copyFrom 75 = .ok (.lastore, 1) := by decide +kernel
theorem dX5_copyFrom_76 : decode cX5_copyFrom 76 = .ok (.iinc 2 1, 3) := by decide +kernel
theorem dX5_copyFrom_79 : decode cX5_copyFrom 79 = .ok (.goto (-20), 3) := by decide +kernel
theorem dX5_copyFrom_82 : decode cX5_copyFrom 82 = .ok (.return_, 1) := by decide +kernel
theorem dX5_entry_0 : decode cX5_entry 0 = .ok (.iload_n 1, 1) := by decide +kernel
theorem dX5_entry_1 : decode cX5_entry 1 = .ok (.tableswitch 76 1 8 #[47, 52, 57, 62, 62, 62, 62, 71], 47) := by decide +kernel
theorem dX5_entry_48 : decode cX5_entry 48 = .ok (.aload_n 0, 1) := by decide +kernel
theorem dX5_entry_49 : decode cX5_entry 49 = .ok (.getfield 18, 3) := by decide +kernel
theorem dX5_entry_52 : decode cX5_entry 52 = .ok (.lreturn, 1) := by decide +kernel
theorem dX5_entry_53 : decode cX5_entry 53 = .ok (.aload_n 0, 1) := by decide +kernel
theorem dX5_entry_54 : decode cX5_entry 54 = .ok (.getfield 22, 3) := by decide +kernel
theorem dX5_entry_57 : decode cX5_entry 57 = .ok (.lreturn, 1) := by decide +kernel
theorem dX5_entry_58 : decode cX5_entry 58 = .ok (.aload_n 0, 1) := by decide +kernel
theorem dX5_entry_59 : decode cX5_entry 59 = .ok (.getfield 25, 3) := by decide +kernel
theorem dX5_entry_62 : decode cX5_entry 62 = .ok (.lreturn, 1) := by decide +kernel
theorem dX5_entry_63 : decode cX5_entry 63 = .ok (.aload_n 0, 1) := by decide +kernel
theorem dX5_entry_64 : decode cX5_entry 64 = .ok (.getfield 9, 3) := by decide +kernel
theorem dX5_entry_67 : decode cX5_entry 67 = .ok (.iload_n 1, 1) := by decide +kernel
theorem dX5_entry_68 : decode cX5_entry 68 = .ok (.iconst 4, 1) := by decide +kernel
theorem dX5_entry_69 : decode cX5_entry 69 = .ok (.isub, 1) := by decide +kernel
theorem dX5_entry_70 : decode cX5_entry 70 = .ok (.laload, 1) := by decide +kernel
theorem dX5_entry_71 : decode cX5_entry 71 = .ok (.lreturn, 1) := by decide +kernel
theorem dX5_entry_72 : decode cX5_entry 72 = .ok (.aload_n 0, 1) := by decide +kernel
theorem dX5_entry_73 : decode cX5_entry 73 = .ok (.getfield 28, 3) := by decide +kernel
theorem dX5_entry_76 : decode cX5_entry 76 = .ok (.lreturn, 1) := by decide +kernel
theorem dX5_entry_77 : decode cX5_entry 77 = .ok (.ldc2_w 31, 3) := by decide +kernel
theorem dX5_entry_80 : decode cX5_entry 80 = .ok (.lreturn, 1) := by decide +kernel
theorem dX5_grow_0 : decode cX5_grow 0 = .ok (.aload_n 0, 1) := by decide +kernel
theorem dX5_grow_1 : decode cX5_grow 1 = .ok (.dup, 1) := by decide +kernel
theorem dX5_grow_2 : decode cX5_grow 2 = .ok (.getfield 18, 3) := by decide +kernel
theorem dX5_grow_5 : decode cX5_grow 5 = .ok (.aload_n 0, 1) := by decide +kernel
theorem dX5_grow_6 : decode cX5_grow 6 = .ok (.getfield 25, 3) := by decide +kernel
theorem dX5_grow_9 : decode cX5_grow 9 = .ok (.lload_n 1, 1) := by decide +kernel
theorem dX5_grow_10 : decode cX5_grow 10 = .ok (.ladd, 1) := by decide +kernel
theorem dX5_grow_11 : decode cX5_grow 11 = .ok (.ladd, 1) := by decide +kernel
theorem dX5_grow_12 : decode cX5_grow 12 = .ok (.putfield 18, 3) := by decide +kernel
theorem dX5_grow_15 : decode cX5_grow 15 = .ok (.aload_n 0, 1) := by decide +kernel
theorem dX5_grow_16 : decode cX5_grow 16 = .ok (.lload_n 3, 1) := by decide +kernel
theorem dX5_grow_17 : decode cX5_grow 17 = .ok (.putfield 25, 3) := by decide +kernel
theorem dX5_grow_20 : decode cX5_grow 20 = .ok (.aload_n 0, 1) := by decide +kernel
theorem dX5_grow_21 : decode cX5_grow 21 = .ok (.getfield 25, 3) := by decide +kernel
theorem dX5_grow_24 : decode cX5_grow 24 = .ok (.lload 5, 2) := by decide +kernel
theorem dX5_grow_26 : decode cX5_grow 26 = .ok (.lcmp, 1) := by decide +kernel
theorem dX5_grow_27 : decode cX5_grow 27 = .ok (.ifCond .le 25, 3) := by decide +kernel
theorem dX5_grow_30 : decode cX5_grow 30 = .ok (.aload_n 0, 1) := by decide +kernel
theorem dX5_grow_31 : decode cX5_grow 31 = .ok (.dup, 1) := by decide +kernel
theorem dX5_grow_32 : decode cX5_grow 32 = .ok (.getfield 18, 3) := by decide +kernel
theorem dX5_grow_35 : decode cX5_grow 35 = .ok (.aload_n 0, 1) := by decide +kernel
theorem dX5_grow_36 : decode cX5_grow 36 = .ok (.getfield 25, 3) := by decide +kernel
theorem dX5_grow_39 : decode cX5_grow 39 = .ok (.lload 5, 2) := by decide +kernel
theorem dX5_grow_41 : decode cX5_grow 41 = .ok (.lsub, 1) := by decide +kernel
theorem dX5_grow_42 : decode cX5_grow 42 = .ok (.ladd, 1) := by decide +kernel
theorem dX5_grow_43 : decode cX5_grow 43 = .ok (.putfield 18, 3) := by decide +kernel
theorem dX5_grow_46 : decode cX5_grow 46 = .ok (.aload_n 0, 1) := by decide +kernel
theorem dX5_grow_47 : decode cX5_grow 47 = .ok (.lload 5, 2) := by decide +kernel
theorem dX5_grow_49 : decode cX5_grow 49 = .ok (.putfield 25, 3) := by decide +kernel
theorem dX5_grow_52 : decode cX5_grow 52 = .ok (.return_, 1) := by decide +kernel
theorem dX5_badnessHere_0 : decode cX5_badnessHere 0 = .ok (.aload_n 0, 1) := by decide +kernel
theorem dX5_badnessHere_1 : decode cX5_badnessHere 1 = .ok (.getfield 18, 3) := by decide +kernel
theorem dX5_badnessHere_4 : decode cX5_badnessHere 4 = .ok (.aload_n 0, 1) := by decide +kernel
theorem dX5_badnessHere_5 : decode cX5_badnessHere 5 = .ok (.getfield 22, 3) := by decide +kernel
theorem dX5_badnessHere_8 : decode cX5_badnessHere 8 = .ok (.lsub, 1) := by decide +kernel
theorem dX5_badnessHere_9 : decode cX5_badnessHere 9 = .ok (.lstore_n 1, 1) := by decide +kernel
theorem dX5_badnessHere_10 : decode cX5_badnessHere 10 = .ok (.lload_n 1, 1) := by decide +kernel
theorem dX5_badnessHere_11 : decode cX5_badnessHere 11 = .ok (.aload_n 0, 1) := by decide +kernel
theorem dX5_badnessHere_12 : decode cX5_badnessHere 12 = .ok (.getfield 28, 3) := by decide +kernel
theorem dX5_badnessHere_15 : decode cX5_badnessHere 15 = .ok (.lcmp, 1) := by decide +kernel
theorem dX5_badnessHere_16 : decode cX5_badnessHere 16 = .ok (.ifCond .le 6, 3) := by decide +kernel
theorem dX5_badnessHere_19 : decode cX5_badnessHere 19 = .ok (.ldc 33, 2) := by decide +kernel
theorem dX5_badnessHere_21 : decode cX5_badnessHere 21 = .ok (.ireturn, 1) := by decide +kernel
theorem dX5_badnessHere_22 : decode cX5_badnessHere 22 = .ok (.lload_n 1, 1) := by decide +kernel
theorem dX5_badnessHere_23 : decode cX5_badnessHere 23 = .ok (.lconst 0, 1) := by decide +kernel
theorem dX5_badnessHere_24 : decode cX5_badnessHere 24 = .ok (.lcmp, 1) := by decide +kernel
theorem dX5_badnessHere_25 : decode cX5_badnessHere 25 = .ok (.ifCond .lt 12, 3) := by decide +kernel
theorem dX5_badnessHere_28 : decode cX5_badnessHere 28 = .ok (.lload_n 1, 1) := by decide +kernel
theorem dX5_badnessHere_29 : decode cX5_badnessHere 29 = .ok (.aload_n 0, 1) := by decide +kernel
theorem dX5_badnessHere_30 : decode cX5_badnessHere 30 = .ok (.getfield 28, 3) := by decide +kernel
theorem dX5_badnessHere_33 : decode cX5_badnessHere 33 = .ok (.invokestatic 34, 3) := by decide +kernel
theorem dX5_badnessHere_36 : decode cX5_badnessHere 36 = .ok (.ireturn, 1) := by decide +kernel
theorem dX5_badnessHere_37 : decode cX5_badnessHere 37 = .ok (.aload_n 0, 1) := by decide +kernel
theorem dX5_badnessHere_38 : decode cX5_badnessHere 38 = .ok (.getfield 9, 3) := by decide +kernel
theorem dX5_badnessHere_41 : decode cX5_badnessHere 41 = .ok (.iconst 1, 1) := by decide +kernel
theorem dX5_badnessHere_42 : decode cX5_badnessHere 42 = .ok (.laload, 1) := by decide +kernel
theorem dX5_badnessHere_43 : decode cX5_badnessHere 43 = .ok (.lconst 0, 1) := by decide +kernel
theorem dX5_badnessHere_44 : decode cX5_badnessHere 44 = .ok (.lcmp, 1) := by decide +kernel
theorem dX5_badnessHere_45 : decode cX5_badnessHere 45 = .ok (.ifCond .ne 25, 3) := by decide +kernel
theorem dX5_badnessHere_48 : decode cX5_badnessHere 48 = .ok (.aload_n 0, 1) := by decide +kernel
theorem dX5_badnessHere_49 : decode cX5_badnessHere 49 = .ok (.getfield 9, 3) := by decide +kernel
theorem dX5_badnessHere_52 : decode cX5_badnessHere 52 = .ok (.iconst 2, 1) := by decide +kernel
theorem dX5_badnessHere_53 : decode cX5_badnessHere 53 = .ok (.laload, 1) := by decide +kernel
theorem dX5_badnessHere_54 : decode cX5_badnessHere 54 = .ok (.lconst 0, 1) := by decide +kernel
theorem dX5_badnessHere_55 : decode cX5_badnessHere 55 = .ok (.lcmp, 1) := by decide +kernel
theorem dX5_badnessHere_56 : decode cX5_badnessHere 56 = .ok (.ifCond .ne 14, 3) := by decide +kernel
theorem dX5_badnessHere_59 : decode cX5_badnessHere 59 = .ok (.aload_n 0, 1) := by decide +kernel
theorem dX5_badnessHere_60 : decode cX5_badnessHere 60 = .ok (.getfield 9, 3) := by decide +kernel
theorem dX5_badnessHere_63 : decode cX5_badnessHere 63 = .ok (.iconst 3, 1) := by decide +kernel
theorem dX5_badnessHere_64 : decode cX5_badnessHere 64 = .ok (.laload, 1) := by decide +kernel
theorem dX5_badnessHere_65 : decode cX5_badnessHere 65 = .ok (.lconst 0, 1) := by decide +kernel
theorem dX5_badnessHere_66 : decode cX5_badnessHere 66 = .ok (.lcmp, 1) := by decide +kernel
theorem dX5_badnessHere_67 : decode cX5_badnessHere 67 = .ok (.ifCond .eq 5, 3) := by decide +kernel
theorem dX5_badnessHere_70 : decode cX5_badnessHere 70 = .ok (.iconst 0, 1) := by decide +kernel
theorem dX5_badnessHere_71 : decode cX5_badnessHere 71 = .ok (.ireturn, 1) := by decide +kernel
theorem dX5_badnessHere_72 : decode cX5_badnessHere 72 = .ok (.lload_n 1, 1) := by decide +kernel
theorem dX5_badnessHere_73 : decode cX5_badnessHere 73 = .ok (.lneg, 1) := by decide +kernel
theorem dX5_badnessHere_74 : decode cX5_badnessHere 74 = .ok (.aload_n 0, 1) := by decide +kernel
theorem dX5_badnessHere_75 : decode cX5_badnessHere 75 = .ok (.getfield 9, 3) := by decide +kernel
theorem dX5_badnessHere_78 : decode cX5_badnessHere 78 = .ok (.iconst 0, 1) := by decide +kernel
theorem dX5_badnessHere_79 : decode cX5_badnessHere 79 = .ok (.laload, 1) := by decide +kernel
theorem dX5_badnessHere_80 : decode cX5_badnessHere 80 = .ok (.invokestatic 34, 3) := by decide +kernel
theorem dX5_badnessHere_83 : decode cX5_badnessHere 83 = .ok (.ireturn, 1) := by decide +kernel
theorem dX6_init_0 : decode cX6_init 0 = .ok (.aload_n 0, 1) := by decide +kernel
theorem dX6_init_1 : decode cX6_init 1 = .ok (.invokespecial 1, 3) := by decide +kernel
theorem dX6_init_4 : decode cX6_init 4 = .ok (.aload_n 0, 1) := by decide +kernel
theorem dX6_init_5 : decode cX6_init 5 = .ok (.new 7, 3) := by decide +kernel
theorem dX6_init_8 : decode cX6_init 8 = .ok (.dup, 1) := by decide +kernel
theorem dX6_init_9 : decode cX6_init 9 = .ok (.invokespecial 9, 3) := by decide +kernel
theorem dX6_init_12 : decode cX6_init 12 = .ok (.putfield 10, 3) := by decide +kernel
theorem dX6_init_15 : decode cX6_init 15 = .ok (.aload_n 1, 1) := by decide +kernel
theorem dX6_init_16 : decode cX6_init 16 = .ok (.getfield 16, 3) := by decide +kernel
theorem dX6_init_19 : decode cX6_init 19 = .ok (.istore_n 3, 1) := by decide +kernel
theorem dX6_init_20 : decode cX6_init 20 = .ok (.aload_n 0, 1) := by decide +kernel
theorem dX6_init_21 : decode cX6_init 21 = .ok (.iload_n 3, 1) := by decide +kernel
theorem dX6_init_22 : decode cX6_init 22 = .ok (.newarray .int, 2) := by decide +kernel
theorem dX6_init_24 : decode cX6_init 24 = .ok (.putfield 22, 3) := by decide +kernel
theorem dX6_init_27 : decode cX6_init 27 = .ok (.aload_n 0, 1) := by decide +kernel
theorem dX6_init_28 : decode cX6_init 28 = .ok (.iload_n 3, 1) := by decide +kernel
theorem dX6_init_29 : decode cX6_init 29 = .ok (.newarray .int, 2) := by decide +kernel
theorem dX6_init_31 : decode cX6_init 31 = .ok (.putfield 26, 3) := by decide +kernel
theorem dX6_init_34 : decode cX6_init 34 = .ok (.iload_n 2, 1) := by decide +kernel
theorem dX6_init_35 : decode cX6_init 35 = .ok (.istore 4, 2) := by decide +kernel
theorem dX6_init_37 : decode cX6_init 37 = .ok (.iload_n 2, 1) := by decide +kernel
theorem dX6_init_38 : decode cX6_init 38 = .ok (.istore 5, 2) := by decide +kernel
theorem dX6_init_40 : decode cX6_init 40 = .ok (.iconst 0, 1) := by decide +kernel
theorem dX6_init_41 : decode cX6_init 41 = .ok (.istore 6, 2) := by decide +kernel
theorem dX6_init_43 : decode cX6_init 43 = .ok (.iconst 0, 1) := by decide +kernel
theorem dX6_init_44 : decode cX6_init 44 = .ok (.istore 7, 2) := by decide +kernel
theorem dX6_init_46 : decode cX6_init 46 = .ok (.iload 7, 2) := by decide +kernel
theorem dX6_init_48 : decode cX6_init 48 = .ok (.iload_n 3, 1) := by decide +kernel
theorem dX6_init_49 : decode cX6_init 49 = .ok (.if_icmp .ge 82, 3) := by decide +kernel
theorem dX6_init_52 : decode cX6_init 52 = .ok (.aload_n 1, 1) := by decide +kernel
theorem dX6_init_53 : decode cX6_init 53 = .ok (.getfield 29, 3) := by decide +kernel
theorem dX6_init_56 : decode cX6_init 56 = .ok (.iload 7, 2) := by decide +kernel
theorem dX6_init_58 : decode cX6_init 58 = .ok (.aaload, 1) := by decide +kernel
theorem dX6_init_59 : decode cX6_init 59 = .ok (.astore 8, 2) := by decide +kernel
theorem dX6_init_61 : decode cX6_init 61 = .ok (.aload_n 0, 1) := by decide +kernel
theorem dX6_init_62 : decode cX6_init 62 = .ok (.getfield 22, 3) := by decide +kernel
theorem dX6_init_65 : decode cX6_init 65 = .ok (.iload 7, 2) := by decide +kernel
theorem dX6_init_67 : decode cX6_init 67 = .ok (.aload 8, 2) := by decide +kernel
theorem dX6_init_69 : decode cX6_init 69 = .ok (.getfield 33, 3) := by decide +kernel
theorem dX6_init_72 : decode cX6_init 72 = .ok (.iastore, 1) := by decide +kernel
theorem dX6_init_73 : decode cX6_init 73 = .ok (.aload_n 0, 1) := by decide +kernel
theorem dX6_init_74 : decode cX6_init 74 = .ok (.getfield 26, 3) := by decide +kernel
theorem dX6_init_77 : decode cX6_init 77 = .ok (.iload 7, 2) := by decide +kernel
theorem dX6_init_79 : decode cX6_init 79 = .ok (.aload_n 1, 1) := by decide +kernel
theorem dX6_init_80 : decode cX6_init 80 = .ok (.getfield 38, 3) := by decide +kernel
theorem dX6_init_83 : decode cX6_init 83 = .ok (.iload 7, 2) := by decide +kernel
theorem dX6_init_85 : decode cX6_init 85 = .ok (.iaload, 1) := by decide +kernel
theorem dX6_init_86 : decode cX6_init 86 = .ok (.iastore, 1) := by decide +kernel
theorem dX6_init_87 : decode cX6_init 87 = .ok (.aload 8, 2) := by decide +kernel
theorem dX6_init_89 : decode cX6_init 89 = .ok (.getfield 39, 3) := by decide +kernel
theorem dX6_init_92 : decode cX6_init 92 = .ok (.getstatic 43, 3) := by decide +kernel
theorem dX6_init_95 : decode cX6_init 95 = .ok (.if_acmp .ne 30, 3) := by decide +kernel
theorem dX6_init_98 : decode cX6_init 98 = .ok (.iload 6, 2) := by decide +kernel
theorem dX6_init_100 : decode cX6_init 100 = .ok (.ifCond .eq 8, 3) := by decide +kernel
theorem dX6_init_103 : decode cX6_init 103 = .ok (.iload 4, 2) := by decide +kernel
theorem dX6_init_105 : decode cX6_init 105 = .ok (.goto 8, 3) := by decide +kernel
theorem dX6_init_108 : decode cX6_init 108 = .ok (.aload 8, 2) := by decide +kernel
theorem dX6_init_110 : decode cX6_init 110 = .ok (.getfield 48, 3) := by decide +kernel
theorem dX6_init_113 : decode cX6_init 113 = .ok (.istore 4, 2) := by decide +kernel
theorem dX6_init_115 : decode cX6_init 115 = .ok (.aload 8, 2) := by decide +kernel
theorem dX6_init_117 : decode cX6_init 117 = .ok (.getfield 48, 3) := by decide +kernel
theorem dX6_init_120 : decode cX6_init 120 = .ok (.istore 5, 2) := by decide +kernel
theorem dX6_init_122 : decode cX6_init 122 = .ok (.iconst 1, 1) := by decide +kernel
theorem dX6_init_123 : decode cX6_init 123 = .ok (.istore 6, 2) := by decide +kernel
theorem dX6_init_125 : decode cX6_init 125 = .ok (.iinc 7 1, 3) := by decide +kernel
theorem dX6_init_128 : decode cX6_init 128 = .ok (.goto (-82), 3) := by decide +kernel
theorem dX6_init_131 : decode cX6_init 131 = .ok (.aload_n 0, 1) := by decide +kernel
theorem dX6_init_132 : decode cX6_init 132 = .ok (.getfield 10, 3) := by decide +kernel
theorem dX6_init_135 : decode cX6_init 135 = .ok (.aload_n 1, 1) := by decide +kernel
theorem dX6_init_136 : decode cX6_init 136 = .ok (.getfield 51, 3) := by decide +kernel
theorem dX6_init_139 : decode cX6_init 139 = .ok (.invokevirtual 54, 3) := by decide +kernel
theorem dX6_init_142 : decode cX6_init 142 = .ok (.aload_n 0, 1) := by decide +kernel
theorem dX6_init_143 : decode cX6_init 143 = .ok (.aload_n 1, 1) := by decide +kernel
theorem dX6_init_144 : decode cX6_init 144 = .ok (.getfield 58, 3) := by decide +kernel
theorem dX6_init_147 : decode cX6_init 147 = .ok (.putfield 62, 3) := by decide +kernel
theorem dX6_init_150 : decode cX6_init 150 = .ok (.aload_n 0, 1) := by decide +kernel
theorem dX6_init_151 : decode cX6_init 151 = .ok (.aload_n 1, 1) := by decide +kernel
theorem dX6_init_152 : decode cX6_init 152 = .ok (.getfield 63, 3) := by decide +kernel
theorem dX6_init_155 : decode cX6_init 155 = .ok (.putfield 66, 3) := by decide +kernel
theorem dX6_init_158 : decode cX6_init 158 = .ok (.aload_n 0, 1) := by decide +kernel
theorem dX6_init_159 : decode cX6_init 159 = .ok (.iload_n 2, 1) := by decide +kernel
theorem dX6_init_160 : decode cX6_init 160 = .ok (.putfield 69, 3) := by decide +kernel
theorem dX6_init_163 : decode cX6_init 163 = .ok (.aload_n 0, 1) := by decide +kernel
theorem dX6_init_164 : decode cX6_init 164 = .ok (.iload 4, 2) := by decide +kernel
theorem dX6_init_166 : decode cX6_init 166 = .ok (.putfield 72, 3) := by decide +kernel
theorem dX6_init_169 : decode cX6_init 169 = .ok (.aload_n 0, 1) := by decide +kernel
theorem dX6_init_170 : decode cX6_init 170 = .ok (.iload 5, 2) := by decide +kernel
theorem dX6_init_172 : decode cX6_init 172 = .ok (.putfield 75, 3) := by decide +kernel
theorem dX6_init_175 : decode cX6_init 175 = .ok (.return_, 1) := by decide +kernel
theorem dX7_init_0 : decode cX7_init 0 = .ok (.aload_n 0, 1) := by decide +kernel
theorem dX7_init_1 : decode cX7_init 1 = .ok (.invokespecial 1, 3) := by decide +kernel
theorem dX7_init_4 : decode cX7_init 4 = .ok (.aload_n 0, 1) := by decide +kernel
theorem dX7_init_5 : decode cX7_init 5 = .ok (.sipush 400, 3) := by decide +kernel
theorem dX7_init_8 : decode cX7_init 8 = .ok (.anewarray 9, 3) := by decide +kernel
theorem dX7_init_11 : decode cX7_init 11 = .ok (.putfield 11, 3) := by decide +kernel
theorem dX7_init_14 : decode cX7_init 14 = .ok (.aload_n 0, 1) := by decide +kernel
theorem dX7_init_15 : decode cX7_init 15 = .ok (.iconst 4, 1) := by decide +kernel
theorem dX7_init_16 : decode cX7_init 16 = .ok (.anewarray 15, 3) := by decide +kernel
theorem dX7_init_19 : decode cX7_init 19 = .ok (.putfield 17, 3) := by decide +kernel
theorem dX7_init_22 : decode cX7_init 22 = .ok (.aload_n 0, 1) := by decide +kernel
theorem dX7_init_23 : decode cX7_init 23 = .ok (.bipush 60, 2) := by decide +kernel
theorem dX7_init_25 : decode cX7_init 25 = .ok (.anewarray 21, 3) := by decide +kernel
theorem dX7_init_28 : decode cX7_init 28 = .ok (.putfield 23, 3) := by decide +kernel
theorem dX7_init_31 : decode cX7_init 31 = .ok (.aload_n 0, 1) := by decide +kernel
theorem dX7_init_32 : decode cX7_init 32 = .ok (.new 27, 3) := by decide +kernel
theorem dX7_init_35 : decode cX7_init 35 = .ok (.dup, 1) := by decide +kernel
theorem dX7_init_36 : decode cX7_init 36 = .ok (.invokespecial 29, 3) := by decide +kernel
theorem dX7_init_39 : decode cX7_init 39 = .ok (.putfield 30, 3) := by decide +kernel
theorem dX7_init_42 : decode cX7_init 42 = .ok (.aload_n 0, 1) := by decide +kernel
theorem dX7_init_43 : decode cX7_init 43 = .ok (.new 34, 3) := by decide +kernel
theorem dX7_init_46 : decode cX7_init 46 = .ok (.dup, 1) := by decide +kernel
theorem dX7_init_47 : decode cX7_init 47 = .ok (.invokespecial 36, 3) := by decide +kernel
theorem dX7_init_50 : decode cX7_init 50 = .ok (.putfield 37, 3) := by decide +kernel
theorem dX7_init_53 : decode cX7_init 53 = .ok (.aload_n 0, 1) := by decide +kernel
theorem dX7_init_54 : decode cX7_init 54 = .ok (.sipush 1000, 3) := by decide +kernel
theorem dX7_init_57 : decode cX7_init 57 = .ok (.putfield 41, 3) := by decide +kernel
theorem dX7_init_60 : decode cX7_init 60 = .ok (.aload_n 0, 1) := by decide +kernel
theorem dX7_init_61 : decode cX7_init 61 = .ok (.getfield 37, 3) := by decide +kernel
theorem dX7_init_64 : decode cX7_init 64 = .ok (.aload_n 0, 1) := by decide +kernel
theorem dX7_init_65 : decode cX7_init 65 = .ok (.getfield 41, 3) := by decide +kernel
theorem dX7_init_68 : decode cX7_init 68 = .ok (.aload_n 0, 1) := by decide +kernel
theorem dX7_init_69 : decode cX7_init 69 = .ok (.getfield 45, 3) := by decide +kernel
theorem dX7_init_72 : decode cX7_init 72 = .ok (.aload_n 0, 1) := by decide +kernel
theorem dX7_init_73 : decode cX7_init 73 = .ok (.getfield 48, 3) := by decide +kernel
theorem dX7_init_76 : decode cX7_init 76 = .ok (.invokevirtual 51, 3) := by decide +kernel
theorem dX7_init_79 : decode cX7_init 79 = .ok (.return_, 1) := by decide +kernel
theorem dX7_set_0 : decode cX7_set 0 = .ok (.iload_n 1, 1) := by decide +kernel
theorem dX7_set_1 : decode cX7_set 1 = .ok (.iconst 0, 1) := by decide +kernel
theorem dX7_set_2 : decode cX7_set 2 = .ok (.ldc 55, 2) := by decide +kernel
theorem dX7_set_4 : decode cX7_set 4 = .ok (.invokestatic 56, 3) := by decide +kernel
theorem dX7_set_7 : decode cX7_set 7 = .ok (.ifCond .eq 23, 3) := by decide +kernel
theorem dX7_set_10 : decode cX7_set 10 = .ok (.iload_n 2, 1) := by decide +kernel
theorem dX7_set_11 : decode cX7_set 11 = .ok (.iconst 0, 1) := by decide +kernel
theorem dX7_set_12 : decode cX7_set 12 = .ok (.ldc 55, 2) := by decide +kernel
theorem dX7_set_14 : decode cX7_set 14 = .ok (.invokestatic 56, 3) := by decide +kernel
theorem dX7_set_17 : decode cX7_set 17 = .ok (.ifCond .eq 13, 3) := by decide +kernel
theorem dX7_set_20 : decode cX7_set 20 = .ok (.iload_n 3, 1) := by decide +kernel
theorem dX7_set_21 : decode cX7_set 21 = .ok (.iconst 0, 1) := by decide +kernel
theorem dX7_set_22 : decode cX7_set 22 = .ok (.ldc 55, 2) := by decide +kernel
theorem dX7_set_24 : decode cX7_set 24 = .ok (.invokestatic 56, 3) := by decide +kernel
theorem dX7_set_27 : decode cX7_set 27 = .ok (.ifCond .ne 6, 3) := by decide +kernel
theorem dX7_set_30 : decode cX7_set 30 = .ok (.bipush (-2), 2) := by decide +kernel
theorem dX7_set_32 : decode cX7_set 32 = .ok (.ireturn, 1) := by decide +kernel
theorem dX7_set_33 : decode cX7_set 33 = .ok (.aload_n 0, 1) := by decide +kernel
theorem dX7_set_34 : decode cX7_set 34 = .ok (.iload_n 1, 1) := by decide +kernel
theorem dX7_set_35 : decode cX7_set 35 = .ok (.putfield 41, 3) := by decide +kernel
theorem dX7_set_38 : decode cX7_set 38 = .ok (.aload_n 0, 1) := by decide +kernel
theorem dX7_set_39 : decode cX7_set 39 = .ok (.iload_n 2, 1) := by decide +kernel
theorem dX7_set_40 : decode cX7_set 40 = .ok (.putfield 45, 3) := by decide +kernel
theorem dX7_set_43 : decode cX7_set 43 = .ok (.aload_n 0, 1) := by decide +kernel
theorem dX7_set_44 : decode cX7_set 44 = .ok (.iload_n 3, 1) := by decide +kernel
theorem dX7_set_45 : decode cX7_set 45 = .ok (.putfield 48, 3) := by decide +kernel
theorem dX7_set_48 : decode cX7_set 48 = .ok (.aload_n 0, 1) := by decide +kernel
theorem dX7_set_49 : decode cX7_set 49 = .ok (.getfield 37, 3) := by decide +kernel
theorem dX7_set_52 : decode cX7_set 52 = .ok (.getfield 60, 3) := by decide +kernel
theorem dX7_set_55 : decode cX7_set 55 = .ok (.ifCond .ne 13, 3) := by decide +kernel
theorem dX7_set_58 : decode cX7_set 58 = .ok (.aload_n 0, 1) := by decide +kernel
theorem dX7_set_59 : decode cX7_set 59 = .ok (.getfield 37, 3) := by decide +kernel
theorem dX7_set_62 : decode cX7_set 62 = .ok (.iload_n 1, 1) := by decide +kernel
theorem dX7_set_63 : decode cX7_set 63 = .ok (.iload_n 2, 1) := by decide +kernel
theorem dX7_set_64 : decode cX7_set 64 = .ok (.iload_n 3, 1) := by decide +kernel
theorem dX7_set_65 : decode cX7_set 65 = .ok (.invokevirtual 51, 3) := by decide +kernel
theorem dX7_set_68 : decode cX7_set 68 = .ok (.iconst 1, 1) := by decide +kernel
theorem dX7_set_69 : decode cX7_set 69 = .ok (.ireturn, 1) := by decide +kernel
theorem dX7_cls_0 : decode cX7_cls 0 = .ok (.iload_n 1, 1) := by decide +kernel
theorem dX7_cls_1 : decode cX7_cls 1 = .ok (.iconst 0, 1) := by decide +kernel
theorem dX7_cls_2 : decode cX7_cls 2 = .ok (.ldc 55, 2) := by decide +kernel
theorem dX7_cls_4 : decode cX7_cls 4 = .ok (.invokestatic 56, 3) := by decide +kernel
theorem dX7_cls_7 : decode cX7_cls 7 = .ok (.ifCond .eq 37, 3) := by decide +kernel
theorem dX7_cls_10 : decode cX7_cls 10 = .ok (.iload_n 2, 1) := by decide +kernel
theorem dX7_cls_11 : decode cX7_cls 11 = .ok (.iconst 0, 1) := by decide +kernel
theorem dX7_cls_12 : decode cX7_cls 12 = .ok (.sipush 2000, 3) := by decide +kernel
theorem dX7_cls_15 : decode cX7_cls 15 = .ok (.invokestatic 56, 3) := by decide +kernel
theorem dX7_cls_18 : decode cX7_cls 18 = .ok (.ifCond .eq 26, 3) := by decide +kernel
theorem dX7_cls_21 : decode cX7_cls 21 = .ok (.iload_n 3, 1) := by decide +kernel
theorem dX7_cls_22 : decode cX7_cls 22 = .ok (.iconst 0, 1) := by decide +kernel
theorem dX7_cls_23 : decode cX7_cls 23 = .ok (.sipush 10000, 3) := by decide +kernel
theorem dX7_cls_26 : decode cX7_cls 26 = .ok (.invokestatic 56, 3) := by decide +kernel
theorem dX7_cls_29 : decode cX7_cls 29 = .ok (.ifCond .eq 15, 3) := by decide +kernel
theorem dX7_cls_32 : decode cX7_cls 32 = .ok (.iload 4, 2) := by decide +kernel
theorem dX7_cls_34 : decode cX7_cls 34 = .ok (.iconst 0, 1) := by decide +kernel
theorem dX7_cls_35 : decode cX7_cls 35 = .ok (.sipush 10000, 3) := by decide +kernel
theorem dX7_cls_38 : decode cX7_cls 38 = .ok (.invokestatic 56, 3) := by decide +kernel
theorem dX7_cls_41 : decode cX7_cls 41 = .ok (.ifCond .ne 6, 3) := by decide +kernel
theorem dX7_cls_44 : decode cX7_cls 44 = .ok (.bipush (-2), 2) := by decide +kernel
theorem dX7_cls_46 : decode cX7_cls 46 = .ok (.ireturn, 1) := by decide +kernel
theorem dX7_cls_47 : decode cX7_cls 47 = .ok (.aload_n 0, 1) := by decide +kernel
theorem dX7_cls_48 : decode cX7_cls 48 = .ok (.getfield 63, 3) := by decide +kernel
theorem dX7_cls_51 : decode cX7_cls 51 = .ok (.iconst 4, 1) := by decide +kernel
theorem dX7_cls_52 : decode cX7_cls 52 = .ok (.if_icmp .lt 6, 3) := by decide +kernel
theorem dX7_cls_55 : decode cX7_cls 55 = .ok (.bipush (-4), 2) := by decide +kernel
theorem dX7_cls_57 : decode cX7_cls 57 = .ok (.ireturn, 1) := by decide +kernel
theorem dX7_cls_58 : decode cX7_cls 58 = .ok (.aload_n 0, 1) := by decide +kernel
theorem dX7_cls_59 : decode cX7_cls 59 = .ok (.getfield 63, 3) := by decide +kernel
theorem dX7_cls_62 : decode cX7_cls 62 = .ok (.istore 5, 2) := by decide +kernel
theorem dX7_cls_64 : decode cX7_cls 64 = .ok (.aload_n 0, 1) := by decide +kernel
theorem dX7_cls_65 : decode cX7_cls 65 = .ok (.getfield 17, 3) := by decide +kernel
theorem dX7_cls_68 : decode cX7_cls 68 = .ok (.iload 5, 2) := by decide +kernel
theorem dX7_cls_70 : decode cX7_cls 70 = .ok (.new 15, 3) := by decide +kernel
theorem dX7_cls_73 : decode cX7_cls 73 = .ok (.dup, 1) := by decide +kernel
theorem dX7_cls_74 : decode cX7_cls 74 = .ok (.iload 5, 2) := by decide +kernel
theorem dX7_cls_76 : decode cX7_cls 76 = .ok (.iload_n 1, 1) := by decide +kernel
theorem dX7_cls_77 : decode cX7_cls 77 = .ok (.iload_n 2, 1) := by decide +kernel
theorem dX7_cls_78 : decode cX7_cls 78 = .ok (.iload_n 3, 1) := by decide +kernel
theorem dX7_cls_79 : decode cX7_cls 79 = .ok (.iload 4, 2) := by decide +kernel
theorem dX7_cls_81 : decode cX7_cls 81 = .ok (.invokespecial 66, 3) := by decide +kernel
theorem dX7_cls_84 : decode cX7_cls 84 = .ok (.aastore, 1) := by decide +kernel
theorem dX7_cls_85 : decode cX7_cls 85 = .ok (.aload_n 0, 1) := by decide +kernel
theorem dX7_cls_86 : decode cX7_cls 86 = .ok (.dup, 1) := by decide +kernel
theorem dX7_cls_87 : decode cX7_cls 87 = .ok (.getfield 63, 3) := by decide +kernel
theorem dX7_cls_90 : decode cX7_cls 90 = .ok (.iconst 1, 1) := by decide +kernel
theorem dX7_cls_91 : decode cX7_cls 91 = .ok (.iadd, 1) := by decide +kernel
theorem dX7_cls_92 : decode cX7_cls 92 = .ok (.putfield 63, 3) := by decide +kernel
theorem dX7_cls_95 : decode cX7_cls 95 = .ok (.iload 5, 2) := by decide +kernel
theorem dX7_cls_97 : decode cX7_cls 97 = .ok (.ireturn, 1) := by decide +kernel
theorem dX7_box_0 : decode cX7_box 0 = .ok (.iload_n 1, 1) := by decide +kernel
theorem dX7_box_1 : decode cX7_box 1 = .ok (.iconst 0, 1) := by decide +kernel
theorem dX7_box_2 : decode cX7_box 2 = .ok (.ldc 69, 2) := by decide +kernel
theorem dX7_box_4 : decode cX7_box 4 = .ok (.invokestatic 56, 3) := by decide +kernel
theorem dX7_box_7 : decode cX7_box 7 = .ok (.ifCond .eq 13, 3) := by decide +kernel
theorem dX7_box_10 : decode cX7_box 10 = .ok (.iload_n 2, 1) := by decide +kernel
theorem dX7_box_11 : decode cX7_box 11 = .ok (.iconst 0, 1) := by decide +kernel
theorem dX7_box_12 : decode cX7_box 12 = .ok (.ldc 69, 2) := by decide +kernel
theorem dX7_box_14 : decode cX7_box 14 = .ok (.invokestatic 56, 3) := by decide +kernel
theorem dX7_box_17 : decode cX7_box 17 = .ok (.ifCond .ne 6, 3) := by decide +kernel
theorem dX7_box_20 : decode cX7_box 20 = .ok (.bipush (-2), 2) := by decide +kernel
theorem dX7_box_22 : decode cX7_box 22 = .ok (.ireturn, 1) := by decide +kernel
theorem dX7_box_23 : decode cX7_box 23 = .ok (.aload_n 0, 1) := by decide +kernel
theorem dX7_box_24 : decode cX7_box 24 = .ok (.getfield 70, 3) := by decide +kernel
theorem dX7_box_27 : decode cX7_box 27 = .ok (.sipush 400, 3) := by decide +kernel
theorem dX7_box_30 : decode cX7_box 30 = .ok (.if_icmp .lt 6, 3) := by decide +kernel
theorem dX7_box_33 : decode cX7_box 33 = .ok (.bipush (-4), 2) := by decide +kernel
theorem dX7_box_35 : decode cX7_box 35 = .ok (.ireturn, 1) := by decide +kernel
theorem dX7_box_36 : decode cX7_box 36 = .ok (.new 9, 3) := by decide +kernel
theorem dX7_box_39 : decode cX7_box 39 = .ok (.dup, 1) := by decide +kernel
theorem dX7_box_40 : decode cX7_box 40 = .ok (.aload_n 0, 1) := by decide +kernel
theorem dX7_box_41 : decode cX7_box 41 = .ok (.getfield 70, 3) := by decide +kernel
theorem dX7_box_44 : decode cX7_box 44 = .ok (.getstatic 73, 3) := by decide +kernel
theorem dX7_box_47 : decode cX7_box 47 = .ok (.iload_n 1, 1) := by decide +kernel
theorem dX7_box_48 : decode cX7_box 48 = .ok (.invokespecial 79, 3) := by decide +kernel
theorem dX7_box_51 : decode cX7_box 51 = .ok (.astore_n 3, 1) := by decide +kernel
theorem dX7_box_52 : decode cX7_box 52 = .ok (.aload_n 3, 1) := by decide +kernel
theorem dX7_box_53 : decode cX7_box 53 = .ok (.iload_n 2, 1) := by decide +kernel
theorem dX7_box_54 : decode cX7_box 54 = .ok (.putfield 82, 3) := by decide +kernel
theorem dX7_box_57 : decode cX7_box 57 = .ok (.aload_n 0, 1) := by decide +kernel
theorem dX7_box_58 : decode cX7_box 58 = .ok (.aload_n 3, 1) := by decide +kernel
theorem dX7_box_59 : decode cX7_box 59 = .ok (.invokevirtual 85, 3) := by decide +kernel
theorem dX7_box_62 : decode cX7_box 62 = .ok (.ireturn, 1) := by decide +kernel
theorem dX7_glue_0 : decode cX7_glue 0 = .ok (.iload_n 1, 1) := by decide +kernel
theorem dX7_glue_1 : decode cX7_glue 1 = .ok (.ldc 89, 2) := by decide +kernel
theorem dX7_glue_3 : decode cX7_glue 3 = .ok (.ldc 69, 2) := by decide +kernel
theorem dX7_glue_5 : decode cX7_glue 5 = .ok (.invokestatic 56, 3) := by decide +kernel
theorem dX7_glue_8 : decode cX7_glue 8 = .ok (.ifCond .eq 33, 3) := by decide +kernel
theorem dX7_glue_11 : decode cX7_glue 11 = .ok (.iload_n 2, 1) := by decide +kernel
theorem dX7_glue_12 : decode cX7_glue 12 = .ok (.iconst 0, 1) := by decide +kernel
theorem dX7_glue_13 : decode cX7_glue 13 = .ok (.ldc 69, 2) := by decide +kernel
theorem dX7_glue_15 : decode cX7_glue 15 = .ok (.invokestatic 56, 3) := by decide +kernel
theorem dX7_glue_18 : decode cX7_glue 18 = .ok (.ifCond .eq 23, 3) := by decide +kernel
theorem dX7_glue_21 : decode cX7_glue 21 = .ok (.iload_n 3, 1) := by decide +kernel
theorem dX7_glue_22 : decode cX7_glue 22 = .ok (.iconst 0, 1) := by decide +kernel
theorem dX7_glue_23 : decode cX7_glue 23 = .ok (.iconst 3, 1) := by decide +kernel
theorem dX7_glue_24 : decode cX7_glue 24 = .ok (.invokestatic 56, 3) := by decide +kernel
theorem dX7_glue_27 : decode cX7_glue 27 = .ok (.ifCond .eq 14, 3) := by decide +kernel
theorem dX7_glue_30 : decode cX7_glue 30 = .ok (.iload 4, 2) := by decide +kernel
theorem dX7_glue_32 : decode cX7_glue 32 = .ok (.iconst 0, 1) := by decide +kernel
theorem dX7_glue_33 : decode cX7_glue 33 = .ok (.ldc 69, 2) := by decide +kernel
theorem dX7_glue_35 : decode cX7_glue 35 = .ok (.invokestatic 56, 3) := by decide +kernel
theorem dX7_glue_38 : decode cX7_glue 38 = .ok (.ifCond .ne 6, 3) := by decide +kernel
theorem dX7_glue_41 : decode cX7_glue 41 = .ok (.bipush (-2), 2) := by decide +kernel
theorem dX7_glue_43 : decode cX7_glue 43 = .ok (.ireturn, 1) := by decide +kernel
theorem dX7_glue_44 : decode cX7_glue 44 = .ok (.aload_n 0, 1) := by decide +kernel
theorem dX7_glue_45 : decode cX7_glue 45 = .ok (.getfield 70, 3) := by decide +kernel
theorem dX7_glue_48 : decode cX7_glue 48 = .ok (.sipush 400, 3) := by decide +kernel
theorem dX7_glue_51 : decode cX7_glue 51 = .ok (.if_icmp .lt 6, 3) := by decide +kernel
theorem dX7_glue_54 : decode cX7_glue 54 = .ok (.bipush (-4), 2) := by decide +kernel
theorem dX7_glue_56 : decode cX7_glue 56 = .ok (.ireturn, 1) := by decide +kernel
theorem dX7_glue_57 : decode cX7_glue 57 = .ok (.new 9, 3) := by decide +kernel
theorem dX7_glue_60 : decode cX7_glue 60 = .ok (.dup, 1) := by decide +kernel
theorem dX7_glue_61 : decode cX7_glue 61 = .ok (.aload_n 0, 1) := by decide +kernel
theorem dX7_glue_62 : decode cX7_glue 62 = .ok (.getfield 70, 3) := by decide +kernel
theorem dX7_glue_65 : decode cX7_glue 65 = .ok (.getstatic 90, 3) := by decide +kernel
theorem dX7_glue_68 : decode cX7_glue 68 = .ok (.iload_n 1, 1) := by decide +kernel
theorem dX7_glue_69 : decode cX7_glue 69 = .ok (.invokespecial 79, 3) := by decide +kernel
theorem dX7_glue_72 : decode cX7_glue 72 = .ok (.astore 5, 2) := by decide +kernel
theorem dX7_glue_74 : decode cX7_glue 74 = .ok (.aload 5, 2) := by decide +kernel
theorem dX7_glue_76 : decode cX7_glue 76 = .ok (.iload_n 2, 1) := by decide +kernel
theorem dX7_glue_77 : decode cX7_glue 77 = .ok (.putfield 93, 3) := by decide +kernel
theorem dX7_glue_80 : decode cX7_glue 80 = .ok (.aload 5, 2) := by decide +kernel
theorem dX7_glue_82 : decode cX7_glue 82 = .ok (.iload_n 3, 1) := by decide +kernel
theorem dX7_glue_83 : decode cX7_glue 83 = .ok (.putfield 96, 3) := by decide +kernel
theorem dX7_glue_86 : decode cX7_glue 86 = .ok (.aload 5, 2) := by decide +kernel
theorem dX7_glue_88 : decode cX7_glue 88 = .ok (.iload 4, 2) := by decide +kernel
theorem dX7_glue_90 : decode cX7_glue 90 = .ok (.putfield 99, 3) := by decide +kernel
theorem dX7_glue_93 : decode cX7_glue 93 = .ok (.aload_n 0, 1) := by decide +kernel
theorem dX7_glue_94 : decode cX7_glue 94 = .ok (.aload 5, 2) := by decide +kernel
theorem dX7_glue_96 : decode cX7_glue 96 = .ok (.invokevirtual 85, 3) := by decide +kernel
theorem dX7_glue_99 : decode cX7_glue 99 = .ok (.ireturn, 1) := by decide +kernel
theorem dX7_kern_0 : decode cX7_kern 0 = .ok (.iload_n 1, 1) := by decide +kernel
theorem dX7_kern_1 : decode cX7_kern 1 = .ok (.ldc 89, 2) := by decide +kernel
theorem dX7_kern_3 : decode cX7_kern 3 = .ok (.ldc 69, 2) := by decide +kernel
theorem dX7_kern_5 : decode cX7_kern 5 = .ok (.invokestatic 56, 3) := by decide +kernel
theorem dX7_kern_8 : decode cX7_kern 8 = .ok (.ifCond .ne 6, 3) := by decide +kernel
theorem dX7_kern_11 : decode cX7_kern 11 = .ok (.bipush (-2), 2) := by decide +kernel
theorem dX7_kern_13 : decode cX7_kern 13 = .ok (.ireturn, 1) := by decide +kernel
theorem dX7_kern_14 : decode cX7_kern 14 = .ok (.aload_n 0, 1) := by decide +kernel
theorem dX7_kern_15 : decode cX7_kern 15 = .ok (.getfield 70, 3) := by decide +kernel
theorem dX7_kern_18 : decode cX7_kern 18 = .ok (.sipush 400, 3) := by decide +kernel
theorem dX7_kern_21 : decode cX7_kern 21 = .ok (.if_icmp .lt 6, 3) := by decide +kernel
theorem dX7_kern_24 : decode cX7_kern 24 = .ok (.bipush (-4), 2) := by decide +kernel
theorem dX7_kern_26 : decode cX7_kern 26 = .ok (.ireturn, 1) := by decide +kernel
theorem dX7_kern_27 : decode cX7_kern 27 = .ok (.aload_n 0, 1) := by decide +kernel
theorem dX7_kern_28 : decode cX7_kern 28 = .ok (.new 9, 3) := by decide +kernel
theorem dX7_kern_31 : decode cX7_kern 31 = .ok (.dup, 1) := by decide +kernel
theorem dX7_kern_32 : decode cX7_kern 32 = .ok (.aload_n 0, 1) := by decide +kernel
theorem dX7_kern_33 : decode cX7_kern 33 = .ok (.getfield 70, 3) := by decide +kernel
theorem dX7_kern_36 : decode cX7_kern 36 = .ok (.getstatic 102, 3) := by decide +kernel
theorem dX7_kern_39 : decode cX7_kern 39 = .ok (.iload_n 1, 1) := by decide +kernel
theorem dX7_kern_40 : decode cX7_kern 40 = .ok (.invokespecial 79, 3) := by decide +kernel
theorem dX7_kern_43 : decode cX7_kern 43 = .ok (.invokevirtual 85, 3) := by decide +kernel
theorem dX7_kern_46 : decode cX7_kern 46 = .ok (.ireturn, 1) := by decide +kernel
theorem dX7_penalty_0 : decode cX7_penalty 0 = .ok (.iload_n 1, 1) := by decide +kernel
theorem dX7_penalty_1 : decode cX7_penalty 1 = .ok (.sipush (-10000), 3) := by decide +kernel
theorem dX7_penalty_4 : decode cX7_penalty 4 = .ok (.sipush 10000, 3) := by decide +kernel
theorem dX7_penalty_7 : decode cX7_penalty 7 = .ok (.invokestatic 56, 3) := by decide +kernel
theorem dX7_penalty_10 : decode cX7_penalty 10 = .ok (.ifCond .ne 6, 3) := by decide +kernel
theorem dX7_penalty_13 : decode cX7_penalty 13 = .ok (.bipush (-2), 2) := by decide +kernel
theorem dX7_penalty_15 : decode cX7_penalty 15 = .ok (.ireturn, 1) := by decide +kernel
theorem dX7_penalty_16 : decode cX7_penalty 16 = .ok (.aload_n 0, 1) := by decide +kernel
theorem dX7_penalty_17 : decode cX7_penalty 17 = .ok (.getfield 70, 3) := by decide +kernel
theorem dX7_penalty_20 : decode cX7_penalty 20 = .ok (.sipush 400, 3) := by decide +kernel
theorem dX7_penalty_23 : decode cX7_penalty 23 = .ok (.if_icmp .lt 6, 3) := by decide +kernel
theorem dX7_penalty_26 : decode cX7_penalty 26 = .ok (.bipush (-4), 2) := by decide +kernel
theorem dX7_penalty_28 : decode cX7_penalty 28 = .ok (.ireturn, 1) := by decide +kernel
theorem dX7_penalty_29 : decode cX7_penalty 29 = .ok (.aload_n 0, 1) := by decide +kernel
theorem dX7_penalty_30 : decode cX7_penalty 30 = .ok (.new 9, 3) := by decide +kernel
theorem dX7_penalty_33 : decode cX7_penalty 33 = .ok (.dup, 1) := by decide +kernel
theorem dX7_penalty_34 : decode cX7_penalty 34 = .ok (.aload_n 0, 1) := by decide +kernel
theorem dX7_penalty_35 : decode cX7_penalty 35 = .ok (.getfield 70, 3) := by decide +kernel
theorem dX7_penalty_38 : decode cX7_penalty 38 = .ok (.getstatic 105, 3) := by decide +kernel
theorem dX7_penalty_41 : decode cX7_penalty 41 = .ok (.iload_n 1, 1) := by decide +kernel
theorem dX7_penalty_42 : decode cX7_penalty 42 = .ok (.invokespecial 79, 3) := by decide +kernel
theorem dX7_penalty_45 : decode cX7_penalty 45 = .ok (.invokevirtual 85, 3) := by decide +kernel
theorem dX7_penalty_48 : decode cX7_penalty 48 = .ok (.ireturn, 1) := by decide +kernel
theorem dX7_insert_0 : decode cX7_insert 0 = .ok (.iload_n 1, 1) := by decide +kernel
theorem dX7_insert_1 : decode cX7_insert 1 = .ok (.iconst 0, 1) := by decide +kernel
theorem dX7_insert_2 : decode cX7_insert 2 = .ok (.aload_n 0, 1) := by decide +kernel
theorem dX7_insert_3 : decode cX7_insert 3 = .ok (.getfield 63, 3) := by decide +kernel
theorem dX7_insert_6 : decode cX7_insert 6 = .ok (.iconst 1, 1) := by decide +kernel
theorem dX7_insert_7 : decode cX7_insert 7 = .ok (.isub, 1) := by decide +kernel
theorem dX7_insert_8 : decode cX7_insert 8 = .ok (.invokestatic 56, 3) := by decide +kernel
