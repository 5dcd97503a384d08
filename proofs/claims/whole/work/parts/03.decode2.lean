/-! decode rows -/
theorem dX2_takeNumber_5 : decode cX2_takeNumber 5 = .ok (.bipush 10, 2) := by decide +kernel
theorem dX2_takeNumber_7 : decode cX2_takeNumber 7 = .ok (.if_icmp .ge 79, 3) := by decide +kernel
theorem dX2_takeNumber_10 : decode cX2_takeNumber 10 = .ok (.aload_n 0, 1) := by decide +kernel
theorem dX2_takeNumber_11 : decode cX2_takeNumber 11 = .ok (.getfield 37, 3) := by decide +kernel
theorem dX2_takeNumber_14 : decode cX2_takeNumber 14 = .ok (.aload_n 0, 1) := by decide +kernel
theorem dX2_takeNumber_15 : decode cX2_takeNumber 15 = .ok (.getfield 40, 3) := by decide +kernel
theorem dX2_takeNumber_18 : decode cX2_takeNumber 18 = .ok (.if_icmp .ge 68, 3) := by decide +kernel
theorem dX2_takeNumber_21 : decode cX2_takeNumber 21 = .ok (.aload_n 0, 1) := by decide +kernel
theorem dX2_takeNumber_22 : decode cX2_takeNumber 22 = .ok (.aload_n 0, 1) := by decide +kernel
theorem dX2_takeNumber_23 : decode cX2_takeNumber 23 = .ok (.getfield 37, 3) := by decide +kernel
theorem dX2_takeNumber_26 : decode cX2_takeNumber 26 = .ok (.invokevirtual 29, 3) := by decide +kernel
theorem dX2_takeNumber_29 : decode cX2_takeNumber 29 = .ok (.istore 4, 2) := by decide +kernel
theorem dX2_takeNumber_31 : decode cX2_takeNumber 31 = .ok (.aload_n 0, 1) := by decide +kernel
theorem dX2_takeNumber_32 : decode cX2_takeNumber 32 = .ok (.dup, 1) := by decide +kernel
theorem dX2_takeNumber_33 : decode cX2_takeNumber 33 = .ok (.getfield 37, 3) := by decide +kernel
theorem dX2_takeNumber_36 : decode cX2_takeNumber 36 = .ok (.iconst 1, 1) := by decide +kernel
theorem dX2_takeNumber_37 : decode cX2_takeNumber 37 = .ok (.iadd, 1) := by decide +kernel
theorem dX2_takeNumber_38 : decode cX2_takeNumber 38 = .ok (.putfield 37, 3) := by decide +kernel
theorem dX2_takeNumber_41 : decode cX2_takeNumber 41 = .ok (.iload_n 3, 1) := by decide +kernel
theorem dX2_takeNumber_42 : decode cX2_takeNumber 42 = .ok (.bipush 9, 2) := by decide +kernel
theorem dX2_takeNumber_44 : decode cX2_takeNumber 44 = .ok (.if_icmp .ne 12, 3) := by decide +kernel
theorem dX2_takeNumber_47 : decode cX2_takeNumber 47 = .ok (.iload 4, 2) := by decide +kernel
theorem dX2_takeNumber_49 : decode cX2_takeNumber 49 = .ok (.iconst 1, 1) := by decide +kernel
theorem dX2_takeNumber_50 : decode cX2_takeNumber 50 = .ok (.if_icmp .le 6, 3) := by decide +kernel
theorem dX2_takeNumber_53 : decode cX2_takeNumber 53 = .ok (.goto 33, 3) := by decide +kernel
theorem dX2_takeNumber_56 : decode cX2_takeNumber 56 = .ok (.lload_n 1, 1) := by decide +kernel
theorem dX2_takeNumber_57 : decode cX2_takeNumber 57 = .ok (.iload 4, 2) := by decide +kernel
theorem dX2_takeNumber_59 : decode cX2_takeNumber 59 = .ok (.bipush 127, 2) := by decide +kernel
theorem dX2_takeNumber_61 : decode cX2_takeNumber 61 = .ok (.iand, 1) := by decide +kernel
theorem dX2_takeNumber_62 : decode cX2_takeNumber 62 = .ok (.i2l, 1) := by decide +kernel
theorem dX2_takeNumber_63 : decode cX2_takeNumber 63 = .ok (.bipush 7, 2) := by decide +kernel
theorem dX2_takeNumber_65 : decode cX2_takeNumber 65 = .ok (.iload_n 3, 1) := by decide +kernel
theorem dX2_takeNumber_66 : decode cX2_takeNumber 66 = .ok (.imul, 1) := by decide +kernel
theorem dX2_takeNumber_67 : decode cX2_takeNumber 67 = .ok (.lshl, 1) := by decide +kernel
theorem dX2_takeNumber_68 : decode cX2_takeNumber 68 = .ok (.ladd, 1) := by decide +kernel
theorem dX2_takeNumber_69 : decode cX2_takeNumber 69 = .ok (.lstore_n 1, 1) := by decide +kernel
theorem dX2_takeNumber_70 : decode cX2_takeNumber 70 = .ok (.iload 4, 2) := by decide +kernel
theorem dX2_takeNumber_72 : decode cX2_takeNumber 72 = .ok (.sipush 128, 3) := by decide +kernel
theorem dX2_takeNumber_75 : decode cX2_takeNumber 75 = .ok (.if_icmp .ge 5, 3) := by decide +kernel
theorem dX2_takeNumber_78 : decode cX2_takeNumber 78 = .ok (.lload_n 1, 1) := by decide +kernel
theorem dX2_takeNumber_79 : decode cX2_takeNumber 79 = .ok (.lreturn, 1) := by decide +kernel
theorem dX2_takeNumber_80 : decode cX2_takeNumber 80 = .ok (.iinc 3 1, 3) := by decide +kernel
theorem dX2_takeNumber_83 : decode cX2_takeNumber 83 = .ok (.goto (-79), 3) := by decide +kernel
theorem dX2_takeNumber_86 : decode cX2_takeNumber 86 = .ok (.aload_n 0, 1) := by decide +kernel
theorem dX2_takeNumber_87 : decode cX2_takeNumber 87 = .ok (.iconst 0, 1) := by decide +kernel
theorem dX2_takeNumber_88 : decode cX2_takeNumber 88 = .ok (.putfield 43, 3) := by decide +kernel
theorem dX2_takeNumber_91 : decode cX2_takeNumber 91 = .ok (.lconst 0, 1) := by decide +kernel
theorem dX2_takeNumber_92 : decode cX2_takeNumber 92 = .ok (.lreturn, 1) := by decide +kernel
theorem dX3_init_0 : decode cX3_init 0 = .ok (.aload_n 0, 1) := by decide +kernel
theorem dX3_init_1 : decode cX3_init 1 = .ok (.invokespecial 3, 3) := by decide +kernel
theorem dX3_init_4 : decode cX3_init 4 = .ok (.aload_n 0, 1) := by decide +kernel
theorem dX3_init_5 : decode cX3_init 5 = .ok (.sipush 300, 3) := by decide +kernel
theorem dX3_init_8 : decode cX3_init 8 = .ok (.newarray .int, 2) := by decide +kernel
theorem dX3_init_10 : decode cX3_init 10 = .ok (.putfield 9, 3) := by decide +kernel
theorem dX3_init_13 : decode cX3_init 13 = .ok (.aload_n 0, 1) := by decide +kernel
theorem dX3_init_14 : decode cX3_init 14 = .ok (.sipush 300, 3) := by decide +kernel
theorem dX3_init_17 : decode cX3_init 17 = .ok (.newarray .long, 2) := by decide +kernel
theorem dX3_init_19 : decode cX3_init 19 = .ok (.putfield 13, 3) := by decide +kernel
theorem dX3_init_22 : decode cX3_init 22 = .ok (.aload_n 0, 1) := by decide +kernel
theorem dX3_init_23 : decode cX3_init 23 = .ok (.bipush 38, 2) := by decide +kernel
theorem dX3_init_25 : decode cX3_init 25 = .ok (.newarray .int, 2) := by decide +kernel
theorem dX3_init_27 : decode cX3_init 27 = .ok (.putfield 17, 3) := by decide +kernel
theorem dX3_init_30 : decode cX3_init 30 = .ok (.aload_n 0, 1) := by decide +kernel
theorem dX3_init_31 : decode cX3_init 31 = .ok (.new 20, 3) := by decide +kernel
theorem dX3_init_34 : decode cX3_init 34 = .ok (.dup, 1) := by decide +kernel
theorem dX3_init_35 : decode cX3_init 35 = .ok (.invokespecial 22, 3) := by decide +kernel
theorem dX3_init_38 : decode cX3_init 38 = .ok (.putfield 23, 3) := by decide +kernel
theorem dX3_init_41 : decode cX3_init 41 = .ok (.aload_n 0, 1) := by decide +kernel
theorem dX3_init_42 : decode cX3_init 42 = .ok (.new 27, 3) := by decide +kernel
theorem dX3_init_45 : decode cX3_init 45 = .ok (.dup, 1) := by decide +kernel
theorem dX3_init_46 : decode cX3_init 46 = .ok (.invokespecial 29, 3) := by decide +kernel
theorem dX3_init_49 : decode cX3_init 49 = .ok (.putfield 30, 3) := by decide +kernel
theorem dX3_init_52 : decode cX3_init 52 = .ok (.aload_n 0, 1) := by decide +kernel
theorem dX3_init_53 : decode cX3_init 53 = .ok (.new 34, 3) := by decide +kernel
theorem dX3_init_56 : decode cX3_init 56 = .ok (.dup, 1) := by decide +kernel
theorem dX3_init_57 : decode cX3_init 57 = .ok (.invokespecial 36, 3) := by decide +kernel
theorem dX3_init_60 : decode cX3_init 60 = .ok (.putfield 37, 3) := by decide +kernel
theorem dX3_init_63 : decode cX3_init 63 = .ok (.aload_n 0, 1) := by decide +kernel
theorem dX3_init_64 : decode cX3_init 64 = .ok (.invokevirtual 41, 3) := by decide +kernel
theorem dX3_init_67 : decode cX3_init 67 = .ok (.return_, 1) := by decide +kernel
theorem dX3_add_0 : decode cX3_add 0 = .ok (.aload_n 0, 1) := by decide +kernel
theorem dX3_add_1 : decode cX3_add 1 = .ok (.getfield 44, 3) := by decide +kernel
theorem dX3_add_4 : decode cX3_add 4 = .ok (.sipush 300, 3) := by decide +kernel
theorem dX3_add_7 : decode cX3_add 7 = .ok (.if_icmp .lt 13, 3) := by decide +kernel
theorem dX3_add_10 : decode cX3_add 10 = .ok (.new 48, 3) := by decide +kernel
theorem dX3_add_13 : decode cX3_add 13 = .ok (.dup, 1) := by decide +kernel
theorem dX3_add_14 : decode cX3_add 14 = .ok (.ldc 50, 2) := by decide +kernel
theorem dX3_add_16 : decode cX3_add 16 = .ok (.invokespecial 52, 3) := by decide +kernel
theorem dX3_add_19 : decode cX3_add 19 = .ok (.athrow, 1) := by decide +kernel
theorem dX3_add_20 : decode cX3_add 20 = .ok (.aload_n 0, 1) := by decide +kernel
theorem dX3_add_21 : decode cX3_add 21 = .ok (.getfield 44, 3) := by decide +kernel
theorem dX3_add_24 : decode cX3_add 24 = .ok (.ifCond .le 28, 3) := by decide +kernel
theorem dX3_add_27 : decode cX3_add 27 = .ok (.iload_n 1, 1) := by decide +kernel
theorem dX3_add_28 : decode cX3_add 28 = .ok (.aload_n 0, 1) := by decide +kernel
theorem dX3_add_29 : decode cX3_add 29 = .ok (.getfield 9, 3) := by decide +kernel
theorem dX3_add_32 : decode cX3_add 32 = .ok (.aload_n 0, 1) := by decide +kernel
theorem dX3_add_33 : decode cX3_add 33 = .ok (.getfield 44, 3) := by decide +kernel
theorem dX3_add_36 : decode cX3_add 36 = .ok (.iconst 1, 1) := by decide +kernel
theorem dX3_add_37 : decode cX3_add 37 = .ok (.isub, 1) := by decide +kernel
theorem dX3_add_38 : decode cX3_add 38 = .ok (.iaload, 1) := by decide +kernel
theorem dX3_add_39 : decode cX3_add 39 = .ok (.if_icmp .gt 13, 3) := by decide +kernel
theorem dX3_add_42 : decode cX3_add 42 = .ok (.new 55, 3) := by decide +kernel
theorem dX3_add_45 : decode cX3_add 45 = .ok (.dup, 1) := by decide +kernel
theorem dX3_add_46 : decode cX3_add 46 = .ok (.ldc 57, 2) := by decide +kernel
theorem dX3_add_48 : decode cX3_add 48 = .ok (.invokespecial 59, 3) := by decide +kernel
theorem dX3_add_51 : decode cX3_add 51 = .ok (.athrow, 1) := by decide +kernel
theorem dX3_add_52 : decode cX3_add 52 = .ok (.aload_n 0, 1) := by decide +kernel
theorem dX3_add_53 : decode cX3_add 53 = .ok (.getfield 9, 3) := by decide +kernel
theorem dX3_add_56 : decode cX3_add 56 = .ok (.aload_n 0, 1) := by decide +kernel
theorem dX3_add_57 : decode cX3_add 57 = .ok (.getfield 44, 3) := by decide +kernel
theorem dX3_add_60 : decode cX3_add 60 = .ok (.iload_n 1, 1) := by decide +kernel
theorem dX3_add_61 : decode cX3_add 61 = .ok (.iastore, 1) := by decide +kernel
theorem dX3_add_62 : decode cX3_add 62 = .ok (.aload_n 0, 1) := by decide +kernel
theorem dX3_add_63 : decode cX3_add 63 = .ok (.getfield 13, 3) := by decide +kernel
theorem dX3_add_66 : decode cX3_add 66 = .ok (.aload_n 0, 1) := by decide +kernel
theorem dX3_add_67 : decode cX3_add 67 = .ok (.getfield 44, 3) := by decide +kernel
theorem dX3_add_70 : decode cX3_add 70 = .ok (.lload_n 2, 1) := by decide +kernel
theorem dX3_add_71 : decode cX3_add 71 = .ok (.lastore, 1) := by decide +kernel
theorem dX3_add_72 : decode cX3_add 72 = .ok (.aload_n 0, 1) := by decide +kernel
theorem dX3_add_73 : decode cX3_add 73 = .ok (.dup, 1) := by decide +kernel
theorem dX3_add_74 : decode cX3_add 74 = .ok (.getfield 44, 3) := by decide +kernel
theorem dX3_add_77 : decode cX3_add 77 = .ok (.iconst 1, 1) := by decide +kernel
theorem dX3_add_78 : decode cX3_add 78 = .ok (.iadd, 1) := by decide +kernel
theorem dX3_add_79 : decode cX3_add 79 = .ok (.putfield 44, 3) := by decide +kernel
theorem dX3_add_82 : decode cX3_add 82 = .ok (.aload_n 0, 1) := by decide +kernel
theorem dX3_add_83 : decode cX3_add 83 = .ok (.getfield 44, 3) := by decide +kernel
theorem dX3_add_86 : decode cX3_add 86 = .ok (.ireturn, 1) := by decide +kernel
theorem dX3_write_0 : decode cX3_write 0 = .ok (.aload_n 0, 1) := by decide +kernel
theorem dX3_write_1 : decode cX3_write 1 = .ok (.invokevirtual 41, 3) := by decide +kernel
theorem dX3_write_4 : decode cX3_write 4 = .ok (.aload_n 0, 1) := by decide +kernel
theorem dX3_write_5 : decode cX3_write 5 = .ok (.getfield 23, 3) := by decide +kernel
theorem dX3_write_8 : decode cX3_write 8 = .ok (.getfield 60, 3) := by decide +kernel
theorem dX3_write_11 : decode cX3_write 11 = .ok (.ireturn, 1) := by decide +kernel
theorem dX3_at_0 : decode cX3_at 0 = .ok (.aload_n 0, 1) := by decide +kernel
theorem dX3_at_1 : decode cX3_at 1 = .ok (.iload_n 1, 1) := by decide +kernel
theorem dX3_at_2 : decode cX3_at 2 = .ok (.invokevirtual 63, 3) := by decide +kernel
theorem dX3_at_5 : decode cX3_at 5 = .ok (.aload_n 0, 1) := by decide +kernel
theorem dX3_at_6 : decode cX3_at 6 = .ok (.getfield 23, 3) := by decide +kernel
theorem dX3_at_9 : decode cX3_at 9 = .ok (.iload_n 1, 1) := by decide +kernel
theorem dX3_at_10 : decode cX3_at 10 = .ok (.invokevirtual 67, 3) := by decide +kernel
theorem dX3_at_13 : decode cX3_at 13 = .ok (.ireturn, 1) := by decide +kernel
theorem dX3_damage_0 : decode cX3_damage 0 = .ok (.aload_n 0, 1) := by decide +kernel
theorem dX3_damage_1 : decode cX3_damage 1 = .ok (.iload_n 1, 1) := by decide +kernel
theorem dX3_damage_2 : decode cX3_damage 2 = .ok (.invokevirtual 63, 3) := by decide +kernel
theorem dX3_damage_5 : decode cX3_damage 5 = .ok (.aload_n 0, 1) := by decide +kernel
theorem dX3_damage_6 : decode cX3_damage 6 = .ok (.getfield 23, 3) := by decide +kernel
theorem dX3_damage_9 : decode cX3_damage 9 = .ok (.iload_n 1, 1) := by decide +kernel
theorem dX3_damage_10 : decode cX3_damage 10 = .ok (.invokevirtual 67, 3) := by decide +kernel
theorem dX3_damage_13 : decode cX3_damage 13 = .ok (.istore_n 3, 1) := by decide +kernel
theorem dX3_damage_14 : decode cX3_damage 14 = .ok (.aload_n 0, 1) := by decide +kernel
theorem dX3_damage_15 : decode cX3_damage 15 = .ok (.getfield 23, 3) := by decide +kernel
theorem dX3_damage_18 : decode cX3_damage 18 = .ok (.getfield 71, 3) := by decide +kernel
theorem dX3_damage_21 : decode cX3_damage 21 = .ok (.iload_n 1, 1) := by decide +kernel
theorem dX3_damage_22 : decode cX3_damage 22 = .ok (.iload_n 2, 1) := by decide +kernel
theorem dX3_damage_23 : decode cX3_damage 23 = .ok (.i2b, 1) := by decide +kernel
theorem dX3_damage_24 : decode cX3_damage 24 = .ok (.bastore, 1) := by decide +kernel
theorem dX3_damage_25 : decode cX3_damage 25 = .ok (.aload_n 0, 1) := by decide +kernel
theorem dX3_damage_26 : decode cX3_damage 26 = .ok (.iconst 0, 1) := by decide +kernel
theorem dX3_damage_27 : decode cX3_damage 27 = .ok (.putfield 75, 3) := by decide +kernel
theorem dX3_damage_30 : decode cX3_damage 30 = .ok (.iload_n 3, 1) := by decide +kernel
theorem dX3_damage_31 : decode cX3_damage 31 = .ok (.ireturn, 1) := by decide +kernel
theorem dX3_cut_0 : decode cX3_cut 0 = .ok (.iload_n 1, 1) := by decide +kernel
theorem dX3_cut_1 : decode cX3_cut 1 = .ok (.ifCond .lt 14, 3) := by decide +kernel
theorem dX3_cut_4 : decode cX3_cut 4 = .ok (.iload_n 1, 1) := by decide +kernel
theorem dX3_cut_5 : decode cX3_cut 5 = .ok (.aload_n 0, 1) := by decide +kernel
theorem dX3_cut_6 : decode cX3_cut 6 = .ok (.getfield 23, 3) := by decide +kernel
theorem dX3_cut_9 : decode cX3_cut 9 = .ok (.getfield 60, 3) := by decide +kernel
theorem dX3_cut_12 : decode cX3_cut 12 = .ok (.if_icmp .le 13, 3) := by decide +kernel
theorem dX3_cut_15 : decode cX3_cut 15 = .ok (.new 55, 3) := by decide +kernel
theorem dX3_cut_18 : decode cX3_cut 18 = .ok (.dup, 1) := by decide +kernel
theorem dX3_cut_19 : decode cX3_cut 19 = .ok (.ldc 79, 2) := by decide +kernel
theorem dX3_cut_21 : decode cX3_cut 21 = .ok (.invokespecial 59, 3) := by decide +kernel
theorem dX3_cut_24 : decode cX3_cut 24 = .ok (.athrow, 1) := by decide +kernel
theorem dX3_cut_25 : decode cX3_cut 25 = .ok (.aload_n 0, 1) := by decide +kernel
theorem dX3_cut_26 : decode cX3_cut 26 = .ok (.getfield 23, 3) := by decide +kernel
theorem dX3_cut_29 : decode cX3_cut 29 = .ok (.iload_n 1, 1) := by decide +kernel
theorem dX3_cut_30 : decode cX3_cut 30 = .ok (.putfield 60, 3) := by decide +kernel
theorem dX3_cut_33 : decode cX3_cut 33 = .ok (.aload_n 0, 1) := by decide +kernel
theorem dX3_cut_34 : decode cX3_cut 34 = .ok (.iconst 0, 1) := by decide +kernel
theorem dX3_cut_35 : decode cX3_cut 35 = .ok (.putfield 75, 3) := by decide +kernel
theorem dX3_cut_38 : decode cX3_cut 38 = .ok (.return_, 1) := by decide +kernel
theorem dX3_open_0 : decode cX3_open 0 = .ok (.aload_n 0, 1) := by decide +kernel
theorem dX3_open_1 : decode cX3_open 1 = .ok (.aload_n 0, 1) := by decide +kernel
theorem dX3_open_2 : decode cX3_open 2 = .ok (.getfield 30, 3) := by decide +kernel
theorem dX3_open_5 : decode cX3_open 5 = .ok (.aload_n 0, 1) := by decide +kernel
theorem dX3_open_6 : decode cX3_open 6 = .ok (.getfield 23, 3) := by decide +kernel
theorem dX3_open_9 : decode cX3_open 9 = .ok (.invokevirtual 81, 3) := by decide +kernel
theorem dX3_open_12 : decode cX3_open 12 = .ok (.putfield 75, 3) := by decide +kernel
theorem dX3_open_15 : decode cX3_open 15 = .ok (.aload_n 0, 1) := by decide +kernel
theorem dX3_open_16 : decode cX3_open 16 = .ok (.getfield 75, 3) := by decide +kernel
theorem dX3_open_19 : decode cX3_open 19 = .ok (.ifCond .ne 13, 3) := by decide +kernel
theorem dX3_open_22 : decode cX3_open 22 = .ok (.new 85, 3) := by decide +kernel
theorem dX3_open_25 : decode cX3_open 25 = .ok (.dup, 1) := by decide +kernel
theorem dX3_open_26 : decode cX3_open 26 = .ok (.ldc 87, 2) := by decide +kernel
theorem dX3_open_28 : decode cX3_open 28 = .ok (.invokespecial 89, 3) := by decide +kernel
theorem dX3_open_31 : decode cX3_open 31 = .ok (.athrow, 1) := by decide +kernel
theorem dX3_open_32 : decode cX3_open 32 = .ok (.aload_n 0, 1) := by decide +kernel
theorem dX3_open_33 : decode cX3_open 33 = .ok (.getfield 30, 3) := by decide +kernel
theorem dX3_open_36 : decode cX3_open 36 = .ok (.getfield 90, 3) := by decide +kernel
theorem dX3_open_39 : decode cX3_open 39 = .ok (.ireturn, 1) := by decide +kernel
theorem dX3_get_0 : decode cX3_get 0 = .ok (.aload_n 0, 1) := by decide +kernel
theorem dX3_get_1 : decode cX3_get 1 = .ok (.invokevirtual 93, 3) := by decide +kernel
theorem dX3_get_4 : decode cX3_get 4 = .ok (.aload_n 0, 1) := by decide +kernel
theorem dX3_get_5 : decode cX3_get 5 = .ok (.getfield 30, 3) := by decide +kernel
theorem dX3_get_8 : decode cX3_get 8 = .ok (.iload_n 1, 1) := by decide +kernel
theorem dX3_get_9 : decode cX3_get 9 = .ok (.invokevirtual 96, 3) := by decide +kernel
theorem dX3_get_12 : decode cX3_get 12 = .ok (.istore_n 2, 1) := by decide +kernel
theorem dX3_get_13 : decode cX3_get 13 = .ok (.iload_n 2, 1) := by decide +kernel
theorem dX3_get_14 : decode cX3_get 14 = .ok (.iconst (-1), 1) := by decide +kernel
theorem dX3_get_15 : decode cX3_get 15 = .ok (.if_icmp .ne 13, 3) := by decide +kernel
theorem dX3_get_18 : decode cX3_get 18 = .ok (.new 99, 3) := by decide +kernel
theorem dX3_get_21 : decode cX3_get 21 = .ok (.dup, 1) := by decide +kernel
theorem dX3_get_22 : decode cX3_get 22 = .ok (.ldc 101, 2) := by decide +kernel
theorem dX3_get_24 : decode cX3_get 24 = .ok (.invokespecial 103, 3) := by decide +kernel
theorem dX3_get_27 : decode cX3_get 27 = .ok (.athrow, 1) := by decide +kernel
theorem dX3_get_28 : decode cX3_get 28 = .ok (.aload_n 0, 1) := by decide +kernel
theorem dX3_get_29 : decode cX3_get 29 = .ok (.iload_n 2, 1) := by decide +kernel
theorem dX3_get_30 : decode cX3_get 30 = .ok (.invokevirtual 104, 3) := by decide +kernel
theorem dX3_get_33 : decode cX3_get 33 = .ok (.istore_n 3, 1) := by decide +kernel
theorem dX3_get_34 : decode cX3_get 34 = .ok (.aload_n 0, 1) := by decide +kernel
theorem dX3_get_35 : decode cX3_get 35 = .ok (.iload_n 2, 1) := by decide +kernel
theorem dX3_get_36 : decode cX3_get 36 = .ok (.invokevirtual 107, 3) := by decide +kernel
theorem dX3_get_39 : decode cX3_get 39 = .ok (.iconst 0, 1) := by decide +kernel
theorem dX3_get_40 : decode cX3_get 40 = .ok (.istore 4, 2) := by decide +kernel
theorem dX3_get_42 : decode cX3_get 42 = .ok (.iload 4, 2) := by decide +kernel
theorem dX3_get_44 : decode cX3_get 44 = .ok (.iload_n 3, 1) := by decide +kernel
theorem dX3_get_45 : decode cX3_get 45 = .ok (.if_icmp .ge 39, 3) := by decide +kernel
theorem dX3_get_48 : decode cX3_get 48 = .ok (.aload_n 0, 1) := by decide +kernel
theorem dX3_get_49 : decode cX3_get 49 = .ok (.getfield 37, 3) := by decide +kernel
theorem dX3_get_52 : decode cX3_get 52 = .ok (.aload_n 0, 1) := by decide +kernel
theorem dX3_get_53 : decode cX3_get 53 = .ok (.getfield 23, 3) := by decide +kernel
theorem dX3_get_56 : decode cX3_get 56 = .ok (.invokevirtual 110, 3) := by decide +kernel
theorem dX3_get_59 : decode cX3_get 59 = .ok (.aload_n 0, 1) := by decide +kernel
theorem dX3_get_60 : decode cX3_get 60 = .ok (.getfield 37, 3) := by decide +kernel
theorem dX3_get_63 : decode cX3_get 63 = .ok (.getfield 114, 3) := by decide +kernel
theorem dX3_get_66 : decode cX3_get 66 = .ok (.iload_n 1, 1) := by decide +kernel
theorem dX3_get_67 : decode cX3_get 67 = .ok (.if_icmp .ne 11, 3) := by decide +kernel
theorem dX3_get_70 : decode cX3_get 70 = .ok (.aload_n 0, 1) := by decide +kernel
theorem dX3_get_71 : decode cX3_get 71 = .ok (.getfield 37, 3) := by decide +kernel
theorem dX3_get_74 : decode cX3_get 74 = .ok (.getfield 117, 3) := by decide +kernel
theorem dX3_get_77 : decode cX3_get 77 = .ok (.lreturn, 1) := by decide +kernel
theorem dX3_get_78 : decode cX3_get 78 = .ok (.iinc 4 1, 3) := by decide +kernel
theorem dX3_get_81 : decode cX3_get 81 = .ok (.goto (-39), 3) := by decide +kernel
theorem dX3_get_84 : decode cX3_get 84 = .ok (.new 99, 3) := by decide +kernel
theorem dX3_get_87 : decode cX3_get 87 = .ok (.dup, 1) := by decide +kernel
theorem dX3_get_88 : decode cX3_get 88 = .ok (.ldc 121, 2) := by decide +kernel
theorem dX3_get_90 : decode cX3_get 90 = .ok (.invokespecial 103, 3) := by decide +kernel
theorem dX3_get_93 : decode cX3_get 93 = .ok (.athrow, 1) := by decide +kernel
theorem dX3_entries_0 : decode cX3_entries 0 = .ok (.aload_n 0, 1) := by decide +kernel
theorem dX3_entries_1 : decode cX3_entries 1 = .ok (.invokevirtual 93, 3) := by decide +kernel
theorem dX3_entries_4 : decode cX3_entries 4 = .ok (.aload_n 0, 1) := by decide +kernel
theorem dX3_entries_5 : decode cX3_entries 5 = .ok (.iload_n 1, 1) := by decide +kernel
theorem dX3_entries_6 : decode cX3_entries 6 = .ok (.invokevirtual 123, 3) := by decide +kernel
theorem dX3_entries_9 : decode cX3_entries 9 = .ok (.aload_n 0, 1) := by decide +kernel
theorem dX3_entries_10 : decode cX3_entries 10 = .ok (.iload_n 1, 1) := by decide +kernel
theorem dX3_entries_11 : decode cX3_entries 11 = .ok (.invokevirtual 104, 3) := by decide +kernel
theorem dX3_entries_14 : decode cX3_entries 14 = .ok (.ireturn, 1) := by decide +kernel
theorem dX3_key_0 : decode cX3_key 0 = .ok (.aload_n 0, 1) := by decide +kernel
theorem dX3_key_1 : decode cX3_key 1 = .ok (.invokevirtual 93, 3) := by decide +kernel
theorem dX3_key_4 : decode cX3_key 4 = .ok (.aload_n 0, 1) := by decide +kernel
theorem dX3_key_5 : decode cX3_key 5 = .ok (.iload_n 1, 1) := by decide +kernel
theorem dX3_key_6 : decode cX3_key 6 = .ok (.invokevirtual 123, 3) := by decide +kernel
theorem dX3_key_9 : decode cX3_key 9 = .ok (.aload_n 0, 1) := by decide +kernel
theorem dX3_key_10 : decode cX3_key 10 = .ok (.iload_n 1, 1) := by decide +kernel
theorem dX3_key_11 : decode cX3_key 11 = .ok (.invokevirtual 104, 3) := by decide +kernel
theorem dX3_key_14 : decode cX3_key 14 = .ok (.istore_n 3, 1) := by decide +kernel
theorem dX3_key_15 : decode cX3_key 15 = .ok (.iload_n 2, 1) := by decide +kernel
theorem dX3_key_16 : decode cX3_key 16 = .ok (.ifCond .lt 8, 3) := by decide +kernel
theorem dX3_key_19 : decode cX3_key 19 = .ok (.iload_n 2, 1) := by decide +kernel
theorem dX3_key_20 : decode cX3_key 20 = .ok (.iload_n 3, 1) := by decide +kernel
theorem dX3_key_21 : decode cX3_key 21 = .ok (.if_icmp .lt 13, 3) := by decide +kernel
theorem dX3_key_24 : decode cX3_key 24 = .ok (.new 126, 3) := by decide +kernel
theorem dX3_key_27 : decode cX3_key 27 = .ok (.dup, 1) := by decide +kernel
theorem dX3_key_28 : decode cX3_key 28 = .ok (.ldc 128, 2) := by decide +kernel
theorem dX3_key_30 : decode cX3_key 30 = .ok (.invokespecial 130, 3) := by decide +kernel
theorem dX3_key_33 : decode cX3_key 33 = .ok (.athrow, 1) := by decide +kernel
theorem dX3_key_34 : decode cX3_key 34 = .ok (.aload_n 0, 1) := by decide +kernel
theorem dX3_key_35 : decode cX3_key 35 = .ok (.iload_n 1, 1) := by decide +kernel
theorem dX3_key_36 : decode cX3_key 36 = .ok (.invokevirtual 107, 3) := by decide +kernel
theorem dX3_key_39 : decode cX3_key 39 = .ok (.iconst 0, 1) := by decide +kernel
theorem dX3_key_40 : decode cX3_key 40 = .ok (.istore 4, 2) := by decide +kernel
theorem dX3_key_42 : decode cX3_key 42 = .ok (.iload 4, 2) := by decide +kernel
theorem dX3_key_44 : decode cX3_key 44 = .ok (.iload_n 2, 1) := by decide +kernel
theorem dX3_key_45 : decode cX3_key 45 = .ok (.if_icmp .gt 20, 3) := by decide +kernel
theorem dX3_key_48 : decode cX3_key 48 = .ok (.aload_n 0, 1) := by decide +kernel
theorem dX3_key_49 : decode cX3_key 49 = .ok (.getfield 37, 3) := by decide +kernel
theorem dX3_key_52 : decode cX3_key 52 = .ok (.aload_n 0, 1) := by decide +kernel
theorem dX3_key_53 : decode cX3_key 53 = .ok (.getfield 23, 3) := by decide +kernel
theorem dX3_key_56 : decode cX3_key 56 = .ok (.invokevirtual 110, 3) := by decide +kernel
theorem dX3_key_59 : decode cX3_key 59 = .ok (.iinc 4 1, 3) := by decide +kernel
theorem dX3_key_62 : decode cX3_key 62 = .ok (.goto (-20), 3) := by decide +kernel
theorem dX3_key_65 : decode cX3_key 65 = .ok (.aload_n 0, 1) := by decide +kernel
theorem dX3_key_66 : decode cX3_key 66 = .ok (.getfield 37, 3) := by decide +kernel
theorem dX3_key_69 : decode cX3_key 69 = .ok (.getfield 114, 3) := by decide +kernel
theorem dX3_key_72 : decode cX3_key 72 = .ok (.ireturn, 1) := by decide +kernel
theorem dX3_size_0 : decode cX3_size 0 = .ok (.aload_n 0, 1) := by decide +kernel
theorem dX3_size_1 : decode cX3_size 1 = .ok (.getfield 23, 3) := by decide +kernel
theorem dX3_size_4 : decode cX3_size 4 = .ok (.getfield 60, 3) := by decide +kernel
theorem dX3_size_7 : decode cX3_size 7 = .ok (.ireturn, 1) := by decide +kernel
theorem dX3_requireByte_0 : decode cX3_requireByte 0 = .ok (.iload_n 1, 1) := by decide +kernel
theorem dX3_requireByte_1 : decode cX3_requireByte 1 = .ok (.ifCond .lt 14, 3) := by decide +kernel
theorem dX3_requireByte_4 : decode cX3_requireByte 4 = .ok (.iload_n 1, 1) := by decide +kernel
theorem dX3_requireByte_5 : decode cX3_requireByte 5 = .ok (.aload_n 0, 1) := by decide +kernel
theorem dX3_requireByte_6 : decode cX3_requireByte 6 = .ok (.getfield 23, 3) := by decide +kernel
theorem dX3_requireByte_9 : decode cX3_requireByte 9 = .ok (.getfield 60, 3) := by decide +kernel
theorem dX3_requireByte_12 : decode cX3_requireByte 12 = .ok (.if_icmp .lt 13, 3) := by decide +kernel
theorem dX3_requireByte_15 : decode cX3_requireByte 15 = .ok (.new 126, 3) := by decide +kernel
theorem dX3_requireByte_18 : decode cX3_requireByte 18 = .ok (.dup, 1) := by decide +kernel
theorem dX3_requireByte_19 : decode cX3_requireByte 19 = .ok (.ldc 131, 2) := by decide +kernel
theorem dX3_requireByte_21 : decode cX3_requireByte 21 = .ok (.invokespecial 130, 3) := by decide +kernel
theorem dX3_requireByte_24 : decode cX3_requireByte 24 = .ok (.athrow, 1) := by decide +kernel
theorem dX3_requireByte_25 : decode cX3_requireByte 25 = .ok (.return_, 1) := by decide +kernel
theorem dX3_requireOpen_0 : decode cX3_requireOpen 0 = .ok (.aload_n 0, 1) := by decide +kernel
theorem dX3_requireOpen_1 : decode cX3_requireOpen 1 = .ok (.getfield 75, 3) := by decide +kernel
theorem dX3_requireOpen_4 : decode cX3_requireOpen 4 = .ok (.ifCond .ne 13, 3) := by decide +kernel
theorem dX3_requireOpen_7 : decode cX3_requireOpen 7 = .ok (.new 48, 3) := by decide +kernel
theorem dX3_requireOpen_10 : decode cX3_requireOpen 10 = .ok (.dup, 1) := by decide +kernel
theorem dX3_requireOpen_11 : decode cX3_requireOpen 11 = .ok (.ldc 133, 2) := by decide +kernel
theorem dX3_requireOpen_13 : decode cX3_requireOpen 13 = .ok (.invokespecial 52, 3) := by decide +kernel
theorem dX3_requireOpen_16 : decode cX3_requireOpen 16 = .ok (.athrow, 1) := by decide +kernel
theorem dX3_requireOpen_17 : decode cX3_requireOpen 17 = .ok (.return_, 1) := by decide +kernel
theorem dX3_requireBlock_0 : decode cX3_requireBlock 0 = .ok (.iload_n 1, 1) := by decide +kernel
theorem dX3_requireBlock_1 : decode cX3_requireBlock 1 = .ok (.ifCond .lt 14, 3) := by decide +kernel
theorem dX3_requireBlock_4 : decode cX3_requireBlock 4 = .ok (.iload_n 1, 1) := by decide +kernel
theorem dX3_requireBlock_5 : decode cX3_requireBlock 5 = .ok (.aload_n 0, 1) := by decide +kernel
theorem dX3_requireBlock_6 : decode cX3_requireBlock 6 = .ok (.getfield 30, 3) := by decide +kernel
theorem dX3_requireBlock_9 : decode cX3_requireBlock 9 = .ok (.getfield 90, 3) := by decide +kernel
theorem dX3_requireBlock_12 : decode cX3_requireBlock 12 = .ok (.if_icmp .lt 13, 3) := by decide +kernel
theorem dX3_requireBlock_15 : decode cX3_requireBlock 15 = .ok (.new 126, 3) := by decide +kernel
theorem dX3_requireBlock_18 : decode cX3_requireBlock 18 = .ok (.dup, 1) := by decide +kernel
theorem dX3_requireBlock_19 : decode cX3_requireBlock 19 = .ok (.ldc 135, 2) := by decide +kernel
theorem dX3_requireBlock_21 : decode cX3_requireBlock 21 = .ok (.invokespecial 130, 3) := by decide +kernel
theorem dX3_requireBlock_24 : decode cX3_requireBlock 24 = .ok (.athrow, 1) := by decide +kernel
theorem dX3_requireBlock_25 : decode cX3_requireBlock 25 = .ok (.return_, 1) := by decide +kernel
theorem dX3_countRightEntries_0 : decode cX3_countRightEntries 0 = .ok (.aload_n 0, 1) := by decide +kernel
theorem dX3_countRightEntries_1 : decode cX3_countRightEntries 1 = .ok (.iload_n 1, 1) := by decide +kernel
theorem dX3_countRightEntries_2 : decode cX3_countRightEntries 2 = .ok (.invokevirtual 137, 3) := by decide +kernel
theorem dX3_countRightEntries_5 : decode cX3_countRightEntries 5 = .ok (.ifCond .eq 11, 3) := by decide +kernel
theorem dX3_countRightEntries_8 : decode cX3_countRightEntries 8 = .ok (.aload_n 0, 1) := by decide +kernel
theorem dX3_countRightEntries_9 : decode cX3_countRightEntries 9 = .ok (.iload_n 1, 1) := by decide +kernel
theorem dX3_countRightEntries_10 : decode cX3_countRightEntries 10 = .ok (.invokevirtual 141, 3) := by decide +kernel
theorem dX3_countRightEntries_13 : decode cX3_countRightEntries 13 = .ok (.goto 4, 3) := by decide +kernel
theorem dX3_countRightEntries_16 : decode cX3_countRightEntries 16 = .ok (.iconst (-1), 1) := by decide +kernel
theorem dX3_countRightEntries_17 : decode cX3_countRightEntries 17 = .ok (.istore_n 2, 1) := by decide +kernel
theorem dX3_countRightEntries_18 : decode cX3_countRightEntries 18 = .ok (.iload_n 2, 1) := by decide +kernel
theorem dX3_countRightEntries_19 : decode cX3_countRightEntries 19 = .ok (.iconst (-1), 1) := by decide +kernel
theorem dX3_countRightEntries_20 : decode cX3_countRightEntries 20 = .ok (.if_icmp .ne 13, 3) := by decide +kernel
theorem dX3_countRightEntries_23 : decode cX3_countRightEntries 23 = .ok (.new 85, 3) := by decide +kernel
theorem dX3_countRightEntries_26 : decode cX3_countRightEntries 26 = .ok (.dup, 1) := by decide +kernel
theorem dX3_countRightEntries_27 : decode cX3_countRightEntries 27 = .ok (.ldc 144, 2) := by decide +kernel
theorem dX3_countRightEntries_29 : decode cX3_countRightEntries 29 = .ok (.invokespecial 89, 3) := by decide +kernel
theorem dX3_countRightEntries_32 : decode cX3_countRightEntries 32 = .ok (.athrow, 1) := by decide +kernel
theorem dX3_countRightEntries_33 : decode cX3_countRightEntries 33 = .ok (.iload_n 2, 1) := by decide +kernel
theorem dX3_countRightEntries_34 : decode cX3_countRightEntries 34 = .ok (.ireturn, 1) := by decide +kernel
theorem dX3_hasRightSum_0 : decode cX3_hasRightSum 0 = .ok (.aload_n 0, 1) := by decide +kernel
theorem dX3_hasRightSum_1 : decode cX3_hasRightSum 1 = .ok (.getfield 30, 3) := by decide +kernel
theorem dX3_hasRightSum_4 : decode cX3_hasRightSum 4 = .ok (.iload_n 1, 1) := by decide +kernel
theorem dX3_hasRightSum_5 : decode cX3_hasRightSum 5 = .ok (.invokevirtual 146, 3) := by decide +kernel
theorem dX3_hasRightSum_8 : decode cX3_hasRightSum 8 = .ok (.istore_n 2, 1) := by decide +kernel
theorem dX3_hasRightSum_9 : decode cX3_hasRightSum 9 = .ok (.aload_n 0, 1) := by decide +kernel
theorem dX3_hasRightSum_10 : decode cX3_hasRightSum 10 = .ok (.getfield 30, 3) := by decide +kernel
theorem dX3_hasRightSum_13 : decode cX3_hasRightSum 13 = .ok (.iload_n 1, 1) := by decide +kernel
theorem dX3_hasRightSum_14 : decode cX3_hasRightSum 14 = .ok (.invokevirtual 149, 3) := by decide +kernel
theorem dX3_hasRightSum_17 : decode cX3_hasRightSum 17 = .ok (.istore_n 3, 1) := by decide +kernel
theorem dX3_hasRightSum_18 : decode cX3_hasRightSum 18 = .ok (.iload_n 2, 1) := by decide +kernel
theorem dX3_hasRightSum_19 : decode cX3_hasRightSum 19 = .ok (.iload_n 3, 1) := by decide +kernel
theorem dX3_hasRightSum_20 : decode cX3_hasRightSum 20 = .ok (.if_icmp .gt 19, 3) := by decide +kernel
theorem dX3_hasRightSum_23 : decode cX3_hasRightSum 23 = .ok (.aload_n 0, 1) := by decide +kernel
theorem dX3_hasRightSum_24 : decode cX3_hasRightSum 24 = .ok (.getfield 23, 3) := by decide +kernel
theorem dX3_hasRightSum_27 : decode cX3_hasRightSum 27 = .ok (.iload_n 2, 1) := by decide +kernel
theorem dX3_hasRightSum_28 : decode cX3_hasRightSum 28 = .ok (.iload_n 3, 1) := by decide +kernel
theorem dX3_hasRightSum_29 : decode cX3_hasRightSum 29 = .ok (.invokevirtual 152, 3) := by decide +kernel
theorem dX3_hasRightSum_32 : decode cX3_hasRightSum 32 = .ok (.ifCond .eq 7, 3) := by decide +kernel
theorem dX3_hasRightSum_35 : decode cX3_hasRightSum 35 = .ok (.iconst 1, 1) := by decide +kernel
theorem dX3_hasRightSum_36 : decode cX3_hasRightSum 36 = .ok (.goto 4, 3) := by decide +kernel
theorem dX3_hasRightSum_39 : decode cX3_hasRightSum 39 = .ok (.iconst 0, 1) := by decide +kernel
theorem dX3_hasRightSum_40 : decode cX3_hasRightSum 40 = .ok (.ireturn, 1) := by decide +kernel
theorem dX3_countEntries_0 : decode cX3_countEntries 0 = .ok (.aload_n 0, 1) := by decide +kernel
theorem dX3_countEntries_1 : decode cX3_countEntries 1 = .ok (.iload_n 1, 1) := by decide +kernel
theorem dX3_countEntries_2 : decode cX3_countEntries 2 = .ok (.invokevirtual 107, 3) := by decide +kernel
theorem dX3_countEntries_5 : decode cX3_countEntries 5 = .ok (.iconst 0, 1) := by decide +kernel
theorem dX3_countEntries_6 : decode cX3_countEntries 6 = .ok (.istore_n 2, 1) := by decide +kernel
theorem dX3_countEntries_7 : decode cX3_countEntries 7 = .ok (.iload_n 2, 1) := by decide +kernel
theorem dX3_countEntries_8 : decode cX3_countEntries 8 = .ok (.sipush 2444, 3) := by decide +kernel
theorem dX3_countEntries_11 : decode cX3_countEntries 11 = .ok (.if_icmp .ge 30, 3) := by decide +kernel
theorem dX3_countEntries_14 : decode cX3_countEntries 14 = .ok (.aload_n 0, 1) := by decide +kernel
theorem dX3_countEntries_15 : decode cX3_countEntries 15 = .ok (.getfield 23, 3) := by decide +kernel
theorem dX3_countEntries_18 : decode cX3_countEntries 18 = .ok (.invokevirtual 156, 3) := by decide +kernel
theorem dX3_countEntries_21 : decode cX3_countEntries 21 = .ok (.ifCond .ne 20, 3) := by decide +kernel
theorem dX3_countEntries_24 : decode cX3_countEntries 24 = .ok (.aload_n 0, 1) := by decide +kernel
theorem dX3_countEntries_25 : decode cX3_countEntries 25 = .ok (.getfield 37, 3) := by decide +kernel
theorem dX3_countEntries_28 : decode cX3_countEntries 28 = .ok (.aload_n 0, 1) := by decide +kernel
theorem dX3_countEntries_29 : decode cX3_countEntries 29 = .ok (.getfield 23, 3) := by decide +kernel
theorem dX3_countEntries_32 : decode cX3_countEntries 32 = .ok (.invokevirtual 110, 3) := by decide +kernel
theorem dX3_countEntries_35 : decode cX3_countEntries 35 = .ok (.iinc 2 1, 3) := by decide +kernel
theorem dX3_countEntries_38 : decode cX3_countEntries 38 = .ok (.goto (-31), 3) := by decide +kernel
theorem dX3_countEntries_41 : decode cX3_countEntries 41 = .ok (.aload_n 0, 1) := by decide +kernel
theorem dX3_countEntries_42 : decode cX3_countEntries 42 = .ok (.getfield 23, 3) := by decide +kernel
theorem dX3_countEntries_45 : decode cX3_countEntries 45 = .ok (.getfield 160, 3) := by decide +kernel
theorem dX3_countEntries_48 : decode cX3_countEntries 48 = .ok (.ifCond .eq 7, 3) := by decide +kernel
theorem dX3_countEntries_51 : decode cX3_countEntries 51 = .ok (.iload_n 2, 1) := by decide +kernel
theorem dX3_countEntries_52 : decode cX3_countEntries 52 = .ok (.goto 4, 3) := by decide +kernel
theorem dX3_countEntries_55 : decode cX3_countEntries 55 = .ok (.iconst (-1), 1) := by decide +kernel
theorem dX3_countEntries_56 : decode cX3_countEntries 56 = .ok (.ireturn, 1) := by decide +kernel
theorem dX3_startReading_0 : decode cX3_startReading 0 = .ok (.aload_n 0, 1) := by decide +kernel
theorem dX3_startReading_1 : decode cX3_startReading 1 = .ok (.getfield 23, 3) := by decide +kernel
theorem dX3_startReading_4 : decode cX3_startReading 4 = .ok (.aload_n 0, 1) := by decide +kernel
theorem dX3_startReading_5 : decode cX3_startReading 5 = .ok (.getfield 30, 3) := by decide +kernel
theorem dX3_startReading_8 : decode cX3_startReading 8 = .ok (.iload_n 1, 1) := by decide +kernel
theorem dX3_startReading_9 : decode cX3_startReading 9 = .ok (.invokevirtual 146, 3) := by decide +kernel
theorem dX3_startReading_12 : decode cX3_startReading 12 = .ok (.aload_n 0, 1) := by decide +kernel
theorem dX3_startReading_13 : decode cX3_startReading 13 = .ok (.getfield 30, 3) := by decide +kernel
theorem dX3_startReading_16 : decode cX3_startReading 16 = .ok (.iload_n 1, 1) := by decide +kernel
theorem dX3_startReading_17 : decode cX3_startReading 17 = .ok (.invokevirtual 149, 3) := by decide +kernel
theorem dX3_startReading_20 : decode cX3_startReading 20 = .ok (.invokevirtual 163, 3) := by decide +kernel
theorem dX3_startReading_23 : decode cX3_startReading 23 = .ok (.aload_n 0, 1) := by decide +kernel
theorem dX3_startReading_24 : decode cX3_startReading 24 = .ok (.getfield 37, 3) := by decide +kernel
theorem dX3_startReading_27 : decode cX3_startReading 27 = .ok (.iconst 1, 1) := by decide +kernel
theorem dX3_startReading_28 : decode cX3_startReading 28 = .ok (.putfield 166, 3) := by decide +kernel
theorem dX3_startReading_31 : decode cX3_startReading 31 = .ok (.return_, 1) := by decide +kernel
