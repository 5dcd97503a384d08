/-! decode rows -/
theorem dX0_init_0 : decode cX0_init 0 = .ok (.aload_n 0, 1) := by decide +kernel
theorem dX0_init_1 : decode cX0_init 1 = .ok (.invokespecial 1, 3) := by decide +kernel
theorem dX0_init_4 : decode cX0_init 4 = .ok (.return_, 1) := by decide +kernel
theorem dX0_readNext_0 : decode cX0_readNext 0 = .ok (.aload_n 1, 1) := by decide +kernel
theorem dX0_readNext_1 : decode cX0_readNext 1 = .ok (.invokevirtual 7, 3) := by decide +kernel
theorem dX0_readNext_4 : decode cX0_readNext 4 = .ok (.lstore_n 2, 1) := by decide +kernel
theorem dX0_readNext_5 : decode cX0_readNext 5 = .ok (.aload_n 0, 1) := by decide +kernel
theorem dX0_readNext_6 : decode cX0_readNext 6 = .ok (.aload_n 0, 1) := by decide +kernel
theorem dX0_readNext_7 : decode cX0_readNext 7 = .ok (.getfield 13, 3) := by decide +kernel
theorem dX0_readNext_10 : decode cX0_readNext 10 = .ok (.ifCond .eq 10, 3) := by decide +kernel
theorem dX0_readNext_13 : decode cX0_readNext 13 = .ok (.lload_n 2, 1) := by decide +kernel
theorem dX0_readNext_14 : decode cX0_readNext 14 = .ok (.invokestatic 19, 3) := by decide +kernel
theorem dX0_readNext_17 : decode cX0_readNext 17 = .ok (.goto 12, 3) := by decide +kernel
theorem dX0_readNext_20 : decode cX0_readNext 20 = .ok (.aload_n 0, 1) := by decide +kernel
theorem dX0_readNext_21 : decode cX0_readNext 21 = .ok (.getfield 25, 3) := by decide +kernel
theorem dX0_readNext_24 : decode cX0_readNext 24 = .ok (.i2l, 1) := by decide +kernel
theorem dX0_readNext_25 : decode cX0_readNext 25 = .ok (.lload_n 2, 1) := by decide +kernel
theorem dX0_readNext_26 : decode cX0_readNext 26 = .ok (.ladd, 1) := by decide +kernel
theorem dX0_readNext_27 : decode cX0_readNext 27 = .ok (.lconst 1, 1) := by decide +kernel
theorem dX0_readNext_28 : decode cX0_readNext 28 = .ok (.ladd, 1) := by decide +kernel
theorem dX0_readNext_29 : decode cX0_readNext 29 = .ok (.l2i, 1) := by decide +kernel
theorem dX0_readNext_30 : decode cX0_readNext 30 = .ok (.putfield 25, 3) := by decide +kernel
theorem dX0_readNext_33 : decode cX0_readNext 33 = .ok (.aload_n 0, 1) := by decide +kernel
theorem dX0_readNext_34 : decode cX0_readNext 34 = .ok (.aload_n 1, 1) := by decide +kernel
theorem dX0_readNext_35 : decode cX0_readNext 35 = .ok (.invokevirtual 7, 3) := by decide +kernel
theorem dX0_readNext_38 : decode cX0_readNext 38 = .ok (.invokestatic 19, 3) := by decide +kernel
theorem dX0_readNext_41 : decode cX0_readNext 41 = .ok (.putfield 29, 3) := by decide +kernel
theorem dX0_readNext_44 : decode cX0_readNext 44 = .ok (.aload_n 0, 1) := by decide +kernel
theorem dX0_readNext_45 : decode cX0_readNext 45 = .ok (.iconst 0, 1) := by decide +kernel
theorem dX0_readNext_46 : decode cX0_readNext 46 = .ok (.putfield 13, 3) := by decide +kernel
theorem dX0_readNext_49 : decode cX0_readNext 49 = .ok (.return_, 1) := by decide +kernel
theorem dX1_init_0 : decode cX1_init 0 = .ok (.aload_n 0, 1) := by decide +kernel
theorem dX1_init_1 : decode cX1_init 1 = .ok (.invokespecial 3, 3) := by decide +kernel
theorem dX1_init_4 : decode cX1_init 4 = .ok (.aload_n 0, 1) := by decide +kernel
theorem dX1_init_5 : decode cX1_init 5 = .ok (.sipush 2444, 3) := by decide +kernel
theorem dX1_init_8 : decode cX1_init 8 = .ok (.newarray .int, 2) := by decide +kernel
theorem dX1_init_10 : decode cX1_init 10 = .ok (.putfield 9, 3) := by decide +kernel
theorem dX1_init_13 : decode cX1_init 13 = .ok (.aload_n 0, 1) := by decide +kernel
theorem dX1_init_14 : decode cX1_init 14 = .ok (.sipush 2444, 3) := by decide +kernel
theorem dX1_init_17 : decode cX1_init 17 = .ok (.newarray .int, 2) := by decide +kernel
theorem dX1_init_19 : decode cX1_init 19 = .ok (.putfield 15, 3) := by decide +kernel
theorem dX1_init_22 : decode cX1_init 22 = .ok (.return_, 1) := by decide +kernel
theorem dX1_startOf_0 : decode cX1_startOf 0 = .ok (.iload_n 1, 1) := by decide +kernel
theorem dX1_startOf_1 : decode cX1_startOf 1 = .ok (.ifCond .ne 7, 3) := by decide +kernel
theorem dX1_startOf_4 : decode cX1_startOf 4 = .ok (.iconst 0, 1) := by decide +kernel
theorem dX1_startOf_5 : decode cX1_startOf 5 = .ok (.goto 11, 3) := by decide +kernel
theorem dX1_startOf_8 : decode cX1_startOf 8 = .ok (.aload_n 0, 1) := by decide +kernel
theorem dX1_startOf_9 : decode cX1_startOf 9 = .ok (.getfield 9, 3) := by decide +kernel
theorem dX1_startOf_12 : decode cX1_startOf 12 = .ok (.iload_n 1, 1) := by decide +kernel
theorem dX1_startOf_13 : decode cX1_startOf 13 = .ok (.iconst 1, 1) := by decide +kernel
theorem dX1_startOf_14 : decode cX1_startOf 14 = .ok (.isub, 1) := by decide +kernel
theorem dX1_startOf_15 : decode cX1_startOf 15 = .ok (.iaload, 1) := by decide +kernel
theorem dX1_startOf_16 : decode cX1_startOf 16 = .ok (.ireturn, 1) := by decide +kernel
theorem dX1_bodyEndOf_0 : decode cX1_bodyEndOf 0 = .ok (.aload_n 0, 1) := by decide +kernel
theorem dX1_bodyEndOf_1 : decode cX1_bodyEndOf 1 = .ok (.getfield 9, 3) := by decide +kernel
theorem dX1_bodyEndOf_4 : decode cX1_bodyEndOf 4 = .ok (.iload_n 1, 1) := by decide +kernel
theorem dX1_bodyEndOf_5 : decode cX1_bodyEndOf 5 = .ok (.iaload, 1) := by decide +kernel
theorem dX1_bodyEndOf_6 : decode cX1_bodyEndOf 6 = .ok (.iconst 4, 1) := by decide +kernel
theorem dX1_bodyEndOf_7 : decode cX1_bodyEndOf 7 = .ok (.isub, 1) := by decide +kernel
theorem dX1_bodyEndOf_8 : decode cX1_bodyEndOf 8 = .ok (.ireturn, 1) := by decide +kernel
theorem dX1_lastBlockNotAbove_0 : decode cX1_lastBlockNotAbove 0 = .ok (.aload_n 0, 1) := by decide +kernel
theorem dX1_lastBlockNotAbove_1 : decode cX1_lastBlockNotAbove 1 = .ok (.getfield 18, 3) := by decide +kernel
theorem dX1_lastBlockNotAbove_4 : decode cX1_lastBlockNotAbove 4 = .ok (.iconst 1, 1) := by decide +kernel
theorem dX1_lastBlockNotAbove_5 : decode cX1_lastBlockNotAbove 5 = .ok (.isub, 1) := by decide +kernel
theorem dX1_lastBlockNotAbove_6 : decode cX1_lastBlockNotAbove 6 = .ok (.istore_n 2, 1) := by decide +kernel
theorem dX1_lastBlockNotAbove_7 : decode cX1_lastBlockNotAbove 7 = .ok (.iload_n 2, 1) := by decide +kernel
theorem dX1_lastBlockNotAbove_8 : decode cX1_lastBlockNotAbove 8 = .ok (.ifCond .lt 21, 3) := by decide +kernel
theorem dX1_lastBlockNotAbove_11 : decode cX1_lastBlockNotAbove 11 = .ok (.aload_n 0, 1) := by decide +kernel
theorem dX1_lastBlockNotAbove_12 : decode cX1_lastBlockNotAbove 12 = .ok (.getfield 15, 3) := by decide +kernel
theorem dX1_lastBlockNotAbove_15 : decode cX1_lastBlockNotAbove 15 = .ok (.iload_n 2, 1) := by decide +kernel
theorem dX1_lastBlockNotAbove_16 : decode cX1_lastBlockNotAbove 16 = .ok (.iaload, 1) := by decide +kernel
theorem dX1_lastBlockNotAbove_17 : decode cX1_lastBlockNotAbove 17 = .ok (.iload_n 1, 1) := by decide +kernel
theorem dX1_lastBlockNotAbove_18 : decode cX1_lastBlockNotAbove 18 = .ok (.if_icmp .gt 5, 3) := by decide +kernel
theorem dX1_lastBlockNotAbove_21 : decode cX1_lastBlockNotAbove 21 = .ok (.iload_n 2, 1) := by decide +kernel
theorem dX1_lastBlockNotAbove_22 : decode cX1_lastBlockNotAbove 22 = .ok (.ireturn, 1) := by decide +kernel
theorem dX1_lastBlockNotAbove_23 : decode cX1_lastBlockNotAbove 23 = .ok (.iinc 2 (-1), 3) := by decide +kernel
theorem dX1_lastBlockNotAbove_26 : decode cX1_lastBlockNotAbove 26 = .ok (.goto (-19), 3) := by decide +kernel
theorem dX1_lastBlockNotAbove_29 : decode cX1_lastBlockNotAbove 29 = .ok (.iconst (-1), 1) := by decide +kernel
theorem dX1_lastBlockNotAbove_30 : decode cX1_lastBlockNotAbove 30 = .ok (.ireturn, 1) := by decide +kernel
theorem dX1_readFrom_0 : decode cX1_readFrom 0 = .ok (.aload_n 1, 1) := by decide +kernel
theorem dX1_readFrom_1 : decode cX1_readFrom 1 = .ok (.getfield 22, 3) := by decide +kernel
theorem dX1_readFrom_4 : decode cX1_readFrom 4 = .ok (.iconst 4, 1) := by decide +kernel
theorem dX1_readFrom_5 : decode cX1_readFrom 5 = .ok (.isub, 1) := by decide +kernel
theorem dX1_readFrom_6 : decode cX1_readFrom 6 = .ok (.iconst 4, 1) := by decide +kernel
theorem dX1_readFrom_7 : decode cX1_readFrom 7 = .ok (.isub, 1) := by decide +kernel
theorem dX1_readFrom_8 : decode cX1_readFrom 8 = .ok (.istore_n 2, 1) := by decide +kernel
theorem dX1_readFrom_9 : decode cX1_readFrom 9 = .ok (.iload_n 2, 1) := by decide +kernel
theorem dX1_readFrom_10 : decode cX1_readFrom 10 = .ok (.ifCond .lt 13, 3) := by decide +kernel
theorem dX1_readFrom_13 : decode cX1_readFrom 13 = .ok (.aload_n 1, 1) := by decide +kernel
theorem dX1_readFrom_14 : decode cX1_readFrom 14 = .ok (.invokevirtual 27, 3) := by decide +kernel
theorem dX1_readFrom_17 : decode cX1_readFrom 17 = .ok (.iload_n 2, 1) := by decide +kernel
theorem dX1_readFrom_18 : decode cX1_readFrom 18 = .ok (.i2l, 1) := by decide +kernel
theorem dX1_readFrom_19 : decode cX1_readFrom 19 = .ok (.lcmp, 1) := by decide +kernel
theorem dX1_readFrom_20 : decode cX1_readFrom 20 = .ok (.ifCond .le 5, 3) := by decide +kernel
theorem dX1_readFrom_23 : decode cX1_readFrom 23 = .ok (.iconst 0, 1) := by decide +kernel
theorem dX1_readFrom_24 : decode cX1_readFrom 24 = .ok (.ireturn, 1) := by decide +kernel
theorem dX1_readFrom_25 : decode cX1_readFrom 25 = .ok (.iload_n 2, 1) := by decide +kernel
theorem dX1_readFrom_26 : decode cX1_readFrom 26 = .ok (.aload_n 1, 1) := by decide +kernel
theorem dX1_readFrom_27 : decode cX1_readFrom 27 = .ok (.invokevirtual 27, 3) := by decide +kernel
theorem dX1_readFrom_30 : decode cX1_readFrom 30 = .ok (.l2i, 1) := by decide +kernel
theorem dX1_readFrom_31 : decode cX1_readFrom 31 = .ok (.isub, 1) := by decide +kernel
theorem dX1_readFrom_32 : decode cX1_readFrom 32 = .ok (.istore_n 3, 1) := by decide +kernel
theorem dX1_readFrom_33 : decode cX1_readFrom 33 = .ok (.aload_n 1, 1) := by decide +kernel
theorem dX1_readFrom_34 : decode cX1_readFrom 34 = .ok (.iload_n 3, 1) := by decide +kernel
theorem dX1_readFrom_35 : decode cX1_readFrom 35 = .ok (.iload_n 2, 1) := by decide +kernel
theorem dX1_readFrom_36 : decode cX1_readFrom 36 = .ok (.invokevirtual 31, 3) := by decide +kernel
theorem dX1_readFrom_39 : decode cX1_readFrom 39 = .ok (.ifCond .ne 5, 3) := by decide +kernel
theorem dX1_readFrom_42 : decode cX1_readFrom 42 = .ok (.iconst 0, 1) := by decide +kernel
theorem dX1_readFrom_43 : decode cX1_readFrom 43 = .ok (.ireturn, 1) := by decide +kernel
theorem dX1_readFrom_44 : decode cX1_readFrom 44 = .ok (.aload_n 1, 1) := by decide +kernel
theorem dX1_readFrom_45 : decode cX1_readFrom 45 = .ok (.iload_n 3, 1) := by decide +kernel
theorem dX1_readFrom_46 : decode cX1_readFrom 46 = .ok (.iload_n 2, 1) := by decide +kernel
theorem dX1_readFrom_47 : decode cX1_readFrom 47 = .ok (.invokevirtual 35, 3) := by decide +kernel
theorem dX1_readFrom_50 : decode cX1_readFrom 50 = .ok (.aload_n 0, 1) := by decide +kernel
theorem dX1_readFrom_51 : decode cX1_readFrom 51 = .ok (.aload_n 1, 1) := by decide +kernel
theorem dX1_readFrom_52 : decode cX1_readFrom 52 = .ok (.iload_n 3, 1) := by decide +kernel
theorem dX1_readFrom_53 : decode cX1_readFrom 53 = .ok (.invokevirtual 39, 3) := by decide +kernel
theorem dX1_readFrom_56 : decode cX1_readFrom 56 = .ok (.ifCond .eq 21, 3) := by decide +kernel
theorem dX1_readFrom_59 : decode cX1_readFrom 59 = .ok (.aload_n 1, 1) := by decide +kernel
theorem dX1_readFrom_60 : decode cX1_readFrom 60 = .ok (.getfield 43, 3) := by decide +kernel
theorem dX1_readFrom_63 : decode cX1_readFrom 63 = .ok (.ifCond .eq 14, 3) := by decide +kernel
theorem dX1_readFrom_66 : decode cX1_readFrom 66 = .ok (.aload_n 1, 1) := by decide +kernel
theorem dX1_readFrom_67 : decode cX1_readFrom 67 = .ok (.invokevirtual 47, 3) := by decide +kernel
theorem dX1_readFrom_70 : decode cX1_readFrom 70 = .ok (.ifCond .eq 7, 3) := by decide +kernel
theorem dX1_readFrom_73 : decode cX1_readFrom 73 = .ok (.iconst 1, 1) := by decide +kernel
theorem dX1_readFrom_74 : decode cX1_readFrom 74 = .ok (.goto 4, 3) := by decide +kernel
theorem dX1_readFrom_77 : decode cX1_readFrom 77 = .ok (.iconst 0, 1) := by decide +kernel
theorem dX1_readFrom_78 : decode cX1_readFrom 78 = .ok (.ireturn, 1) := by decide +kernel
theorem dX1_readBlocks_0 : decode cX1_readBlocks 0 = .ok (.aload_n 1, 1) := by decide +kernel
theorem dX1_readBlocks_1 : decode cX1_readBlocks 1 = .ok (.invokevirtual 51, 3) := by decide +kernel
theorem dX1_readBlocks_4 : decode cX1_readBlocks 4 = .ok (.lstore_n 3, 1) := by decide +kernel
theorem dX1_readBlocks_5 : decode cX1_readBlocks 5 = .ok (.lload_n 3, 1) := by decide +kernel
theorem dX1_readBlocks_6 : decode cX1_readBlocks 6 = .ok (.lconst 0, 1) := by decide +kernel
theorem dX1_readBlocks_7 : decode cX1_readBlocks 7 = .ok (.lcmp, 1) := by decide +kernel
theorem dX1_readBlocks_8 : decode cX1_readBlocks 8 = .ok (.ifCond .lt 11, 3) := by decide +kernel
theorem dX1_readBlocks_11 : decode cX1_readBlocks 11 = .ok (.lload_n 3, 1) := by decide +kernel
theorem dX1_readBlocks_12 : decode cX1_readBlocks 12 = .ok (.ldc2_w 54, 3) := by decide +kernel
theorem dX1_readBlocks_15 : decode cX1_readBlocks 15 = .ok (.lcmp, 1) := by decide +kernel
theorem dX1_readBlocks_16 : decode cX1_readBlocks 16 = .ok (.ifCond .le 5, 3) := by decide +kernel
theorem dX1_readBlocks_19 : decode cX1_readBlocks 19 = .ok (.iconst 0, 1) := by decide +kernel
theorem dX1_readBlocks_20 : decode cX1_readBlocks 20 = .ok (.ireturn, 1) := by decide +kernel
theorem dX1_readBlocks_21 : decode cX1_readBlocks 21 = .ok (.aload_n 0, 1) := by decide +kernel
theorem dX1_readBlocks_22 : decode cX1_readBlocks 22 = .ok (.lload_n 3, 1) := by decide +kernel
theorem dX1_readBlocks_23 : decode cX1_readBlocks 23 = .ok (.l2i, 1) := by decide +kernel
theorem dX1_readBlocks_24 : decode cX1_readBlocks 24 = .ok (.putfield 18, 3) := by decide +kernel
theorem dX1_readBlocks_27 : decode cX1_readBlocks 27 = .ok (.lconst 0, 1) := by decide +kernel
theorem dX1_readBlocks_28 : decode cX1_readBlocks 28 = .ok (.lstore 5, 2) := by decide +kernel
theorem dX1_readBlocks_30 : decode cX1_readBlocks 30 = .ok (.iconst 0, 1) := by decide +kernel
theorem dX1_readBlocks_31 : decode cX1_readBlocks 31 = .ok (.istore 7, 2) := by decide +kernel
theorem dX1_readBlocks_33 : decode cX1_readBlocks 33 = .ok (.iload 7, 2) := by decide +kernel
theorem dX1_readBlocks_35 : decode cX1_readBlocks 35 = .ok (.aload_n 0, 1) := by decide +kernel
theorem dX1_readBlocks_36 : decode cX1_readBlocks 36 = .ok (.getfield 18, 3) := by decide +kernel
theorem dX1_readBlocks_39 : decode cX1_readBlocks 39 = .ok (.if_icmp .ge 71, 3) := by decide +kernel
theorem dX1_readBlocks_42 : decode cX1_readBlocks 42 = .ok (.aload_n 1, 1) := by decide +kernel
theorem dX1_readBlocks_43 : decode cX1_readBlocks 43 = .ok (.invokevirtual 51, 3) := by decide +kernel
theorem dX1_readBlocks_46 : decode cX1_readBlocks 46 = .ok (.lstore 8, 2) := by decide +kernel
theorem dX1_readBlocks_48 : decode cX1_readBlocks 48 = .ok (.aload_n 1, 1) := by decide +kernel
theorem dX1_readBlocks_49 : decode cX1_readBlocks 49 = .ok (.invokevirtual 51, 3) := by decide +kernel
theorem dX1_readBlocks_52 : decode cX1_readBlocks 52 = .ok (.lstore 10, 2) := by decide +kernel
theorem dX1_readBlocks_54 : decode cX1_readBlocks 54 = .ok (.aload_n 0, 1) := by decide +kernel
theorem dX1_readBlocks_55 : decode cX1_readBlocks 55 = .ok (.lload 8, 2) := by decide +kernel
theorem dX1_readBlocks_57 : decode cX1_readBlocks 57 = .ok (.invokevirtual 56, 3) := by decide +kernel
theorem dX1_readBlocks_60 : decode cX1_readBlocks 60 = .ok (.ifCond .eq 12, 3) := by decide +kernel
theorem dX1_readBlocks_63 : decode cX1_readBlocks 63 = .ok (.aload_n 0, 1) := by decide +kernel
theorem dX1_readBlocks_64 : decode cX1_readBlocks 64 = .ok (.lload 10, 2) := by decide +kernel
theorem dX1_readBlocks_66 : decode cX1_readBlocks 66 = .ok (.invokevirtual 56, 3) := by decide +kernel
theorem dX1_readBlocks_69 : decode cX1_readBlocks 69 = .ok (.ifCond .ne 5, 3) := by decide +kernel
theorem dX1_readBlocks_72 : decode cX1_readBlocks 72 = .ok (.iconst 0, 1) := by decide +kernel
theorem dX1_readBlocks_73 : decode cX1_readBlocks 73 = .ok (.ireturn, 1) := by decide +kernel
theorem dX1_readBlocks_74 : decode cX1_readBlocks 74 = .ok (.lload 5, 2) := by decide +kernel
theorem dX1_readBlocks_76 : decode cX1_readBlocks 76 = .ok (.lload 8, 2) := by decide +kernel
theorem dX1_readBlocks_78 : decode cX1_readBlocks 78 = .ok (.ladd, 1) := by decide +kernel
theorem dX1_readBlocks_79 : decode cX1_readBlocks 79 = .ok (.lstore 5, 2) := by decide +kernel
theorem dX1_readBlocks_81 : decode cX1_readBlocks 81 = .ok (.aload_n 0, 1) := by decide +kernel
theorem dX1_readBlocks_82 : decode cX1_readBlocks 82 = .ok (.getfield 9, 3) := by decide +kernel
theorem dX1_readBlocks_85 : decode cX1_readBlocks 85 = .ok (.iload 7, 2) := by decide +kernel
theorem dX1_readBlocks_87 : decode cX1_readBlocks 87 = .ok (.lload 5, 2) := by decide +kernel
theorem dX1_readBlocks_89 : decode cX1_readBlocks 89 = .ok (.l2i, 1) := by decide +kernel
theorem dX1_readBlocks_90 : decode cX1_readBlocks 90 = .ok (.iastore, 1) := by decide +kernel
theorem dX1_readBlocks_91 : decode cX1_readBlocks 91 = .ok (.aload_n 0, 1) := by decide +kernel
theorem dX1_readBlocks_92 : decode cX1_readBlocks 92 = .ok (.getfield 15, 3) := by decide +kernel
theorem dX1_readBlocks_95 : decode cX1_readBlocks 95 = .ok (.iload 7, 2) := by decide +kernel
theorem dX1_readBlocks_97 : decode cX1_readBlocks 97 = .ok (.lload 10, 2) := by decide +kernel
theorem dX1_readBlocks_99 : decode cX1_readBlocks 99 = .ok (.invokestatic 60, 3) := by decide +kernel
theorem dX1_readBlocks_102 : decode cX1_readBlocks 102 = .ok (.l2i, 1) := by decide +kernel
theorem dX1_readBlocks_103 : decode cX1_readBlocks 103 = .ok (.iastore, 1) := by decide +kernel
theorem dX1_readBlocks_104 : decode cX1_readBlocks 104 = .ok (.iinc 7 1, 3) := by decide +kernel
theorem dX1_readBlocks_107 : decode cX1_readBlocks 107 = .ok (.goto (-74), 3) := by decide +kernel
theorem dX1_readBlocks_110 : decode cX1_readBlocks 110 = .ok (.lload 5, 2) := by decide +kernel
theorem dX1_readBlocks_112 : decode cX1_readBlocks 112 = .ok (.iload_n 2, 1) := by decide +kernel
theorem dX1_readBlocks_113 : decode cX1_readBlocks 113 = .ok (.i2l, 1) := by decide +kernel
theorem dX1_readBlocks_114 : decode cX1_readBlocks 114 = .ok (.lcmp, 1) := by decide +kernel
theorem dX1_readBlocks_115 : decode cX1_readBlocks 115 = .ok (.ifCond .ne 7, 3) := by decide +kernel
theorem dX1_readBlocks_118 : decode cX1_readBlocks 118 = .ok (.iconst 1, 1) := by decide +kernel
theorem dX1_readBlocks_119 : decode cX1_readBlocks 119 = .ok (.goto 4, 3) := by decide +kernel
theorem dX1_readBlocks_122 : decode cX1_readBlocks 122 = .ok (.iconst 0, 1) := by decide +kernel
theorem dX1_readBlocks_123 : decode cX1_readBlocks 123 = .ok (.ireturn, 1) := by decide +kernel
theorem dX1_fitsIndex_0 : decode cX1_fitsIndex 0 = .ok (.lload_n 1, 1) := by decide +kernel
theorem dX1_fitsIndex_1 : decode cX1_fitsIndex 1 = .ok (.lconst 0, 1) := by decide +kernel
theorem dX1_fitsIndex_2 : decode cX1_fitsIndex 2 = .ok (.lcmp, 1) := by decide +kernel
theorem dX1_fitsIndex_3 : decode cX1_fitsIndex 3 = .ok (.ifCond .lt 15, 3) := by decide +kernel
theorem dX1_fitsIndex_6 : decode cX1_fitsIndex 6 = .ok (.lload_n 1, 1) := by decide +kernel
theorem dX1_fitsIndex_7 : decode cX1_fitsIndex 7 = .ok (.ldc2_w 64, 3) := by decide +kernel
theorem dX1_fitsIndex_10 : decode cX1_fitsIndex 10 = .ok (.lcmp, 1) := by decide +kernel
theorem dX1_fitsIndex_11 : decode cX1_fitsIndex 11 = .ok (.ifCond .gt 7, 3) := by decide +kernel
theorem dX1_fitsIndex_14 : decode cX1_fitsIndex 14 = .ok (.iconst 1, 1) := by decide +kernel
theorem dX1_fitsIndex_15 : decode cX1_fitsIndex 15 = .ok (.goto 4, 3) := by decide +kernel
theorem dX1_fitsIndex_18 : decode cX1_fitsIndex 18 = .ok (.iconst 0, 1) := by decide +kernel
theorem dX1_fitsIndex_19 : decode cX1_fitsIndex 19 = .ok (.ireturn, 1) := by decide +kernel
theorem dX2_init_0 : decode cX2_init 0 = .ok (.aload_n 0, 1) := by decide +kernel
theorem dX2_init_1 : decode cX2_init 1 = .ok (.invokespecial 3, 3) := by decide +kernel
theorem dX2_init_4 : decode cX2_init 4 = .ok (.aload_n 0, 1) := by decide +kernel
theorem dX2_init_5 : decode cX2_init 5 = .ok (.sipush 4889, 3) := by decide +kernel
theorem dX2_init_8 : decode cX2_init 8 = .ok (.newarray .byte, 2) := by decide +kernel
theorem dX2_init_10 : decode cX2_init 10 = .ok (.putfield 9, 3) := by decide +kernel
theorem dX2_init_13 : decode cX2_init 13 = .ok (.return_, 1) := by decide +kernel
theorem dX2_byteAt_0 : decode cX2_byteAt 0 = .ok (.aload_n 0, 1) := by decide +kernel
theorem dX2_byteAt_1 : decode cX2_byteAt 1 = .ok (.getfield 9, 3) := by decide +kernel
theorem dX2_byteAt_4 : decode cX2_byteAt 4 = .ok (.iload_n 1, 1) := by decide +kernel
theorem dX2_byteAt_5 : decode cX2_byteAt 5 = .ok (.baload, 1) := by decide +kernel
theorem dX2_byteAt_6 : decode cX2_byteAt 6 = .ok (.sipush 255, 3) := by decide +kernel
theorem dX2_byteAt_9 : decode cX2_byteAt 9 = .ok (.iand, 1) := by decide +kernel
theorem dX2_byteAt_10 : decode cX2_byteAt 10 = .ok (.ireturn, 1) := by decide +kernel
theorem dX2_append_0 : decode cX2_append 0 = .ok (.aload_n 0, 1) := by decide +kernel
theorem dX2_append_1 : decode cX2_append 1 = .ok (.getfield 9, 3) := by decide +kernel
theorem dX2_append_4 : decode cX2_append 4 = .ok (.aload_n 0, 1) := by decide +kernel
theorem dX2_append_5 : decode cX2_append 5 = .ok (.getfield 15, 3) := by decide +kernel
theorem dX2_append_8 : decode cX2_append 8 = .ok (.iload_n 1, 1) := by decide +kernel
theorem dX2_append_9 : decode cX2_append 9 = .ok (.i2b, 1) := by decide +kernel
theorem dX2_append_10 : decode cX2_append 10 = .ok (.bastore, 1) := by decide +kernel
theorem dX2_append_11 : decode cX2_append 11 = .ok (.aload_n 0, 1) := by decide +kernel
theorem dX2_append_12 : decode cX2_append 12 = .ok (.dup, 1) := by decide +kernel
theorem dX2_append_13 : decode cX2_append 13 = .ok (.getfield 15, 3) := by decide +kernel
theorem dX2_append_16 : decode cX2_append 16 = .ok (.iconst 1, 1) := by decide +kernel
theorem dX2_append_17 : decode cX2_append 17 = .ok (.iadd, 1) := by decide +kernel
theorem dX2_append_18 : decode cX2_append 18 = .ok (.putfield 15, 3) := by decide +kernel
theorem dX2_append_21 : decode cX2_append 21 = .ok (.return_, 1) := by decide +kernel
theorem dX2_appendNumber_0 : decode cX2_appendNumber 0 = .ok (.lload_n 1, 1) := by decide +kernel
theorem dX2_appendNumber_1 : decode cX2_appendNumber 1 = .ok (.lstore_n 3, 1) := by decide +kernel
theorem dX2_appendNumber_2 : decode cX2_appendNumber 2 = .ok (.iconst 1, 1) := by decide +kernel
theorem dX2_appendNumber_3 : decode cX2_appendNumber 3 = .ok (.istore 5, 2) := by decide +kernel
theorem dX2_appendNumber_5 : decode cX2_appendNumber 5 = .ok (.iload 5, 2) := by decide +kernel
theorem dX2_appendNumber_7 : decode cX2_appendNumber 7 = .ok (.bipush 10, 2) := by decide +kernel
theorem dX2_appendNumber_9 : decode cX2_appendNumber 9 = .ok (.if_icmp .ge 37, 3) := by decide +kernel
theorem dX2_appendNumber_12 : decode cX2_appendNumber 12 = .ok (.lload_n 3, 1) := by decide +kernel
theorem dX2_appendNumber_13 : decode cX2_appendNumber 13 = .ok (.bipush 7, 2) := by decide +kernel
theorem dX2_appendNumber_15 : decode cX2_appendNumber 15 = .ok (.lushr, 1) := by decide +kernel
theorem dX2_appendNumber_16 : decode cX2_appendNumber 16 = .ok (.lconst 0, 1) := by decide +kernel
theorem dX2_appendNumber_17 : decode cX2_appendNumber 17 = .ok (.lcmp, 1) := by decide +kernel
theorem dX2_appendNumber_18 : decode cX2_appendNumber 18 = .ok (.ifCond .eq 28, 3) := by decide +kernel
theorem dX2_appendNumber_21 : decode cX2_appendNumber 21 = .ok (.aload_n 0, 1) := by decide +kernel
theorem dX2_appendNumber_22 : decode cX2_appendNumber 22 = .ok (.lload_n 3, 1) := by decide +kernel
theorem dX2_appendNumber_23 : decode cX2_appendNumber 23 = .ok (.ldc2_w 19, 3) := by decide +kernel
theorem dX2_appendNumber_26 : decode cX2_appendNumber 26 = .ok (.land, 1) := by decide +kernel
theorem dX2_appendNumber_27 : decode cX2_appendNumber 27 = .ok (.l2i, 1) := by decide +kernel
theorem dX2_appendNumber_28 : decode cX2_appendNumber 28 = .ok (.sipush 128, 3) := by decide +kernel
theorem dX2_appendNumber_31 : decode cX2_appendNumber 31 = .ok (.iadd, 1) := by decide +kernel
theorem dX2_appendNumber_32 : decode cX2_appendNumber 32 = .ok (.invokevirtual 21, 3) := by decide +kernel
theorem dX2_appendNumber_35 : decode cX2_appendNumber 35 = .ok (.lload_n 3, 1) := by decide +kernel
theorem dX2_appendNumber_36 : decode cX2_appendNumber 36 = .ok (.bipush 7, 2) := by decide +kernel
theorem dX2_appendNumber_38 : decode cX2_appendNumber 38 = .ok (.lushr, 1) := by decide +kernel
theorem dX2_appendNumber_39 : decode cX2_appendNumber 39 = .ok (.lstore_n 3, 1) := by decide +kernel
theorem dX2_appendNumber_40 : decode cX2_appendNumber 40 = .ok (.iinc 5 1, 3) := by decide +kernel
theorem dX2_appendNumber_43 : decode cX2_appendNumber 43 = .ok (.goto (-38), 3) := by decide +kernel
theorem dX2_appendNumber_46 : decode cX2_appendNumber 46 = .ok (.aload_n 0, 1) := by decide +kernel
theorem dX2_appendNumber_47 : decode cX2_appendNumber 47 = .ok (.lload_n 3, 1) := by decide +kernel
theorem dX2_appendNumber_48 : decode cX2_appendNumber 48 = .ok (.l2i, 1) := by decide +kernel
theorem dX2_appendNumber_49 : decode cX2_appendNumber 49 = .ok (.invokevirtual 21, 3) := by decide +kernel
theorem dX2_appendNumber_52 : decode cX2_appendNumber 52 = .ok (.return_, 1) := by decide +kernel
theorem dX2_appendSum_0 : decode cX2_appendSum 0 = .ok (.aload_n 0, 1) := by decide +kernel
theorem dX2_appendSum_1 : decode cX2_appendSum 1 = .ok (.iload_n 1, 1) := by decide +kernel
theorem dX2_appendSum_2 : decode cX2_appendSum 2 = .ok (.aload_n 0, 1) := by decide +kernel
theorem dX2_appendSum_3 : decode cX2_appendSum 3 = .ok (.getfield 15, 3) := by decide +kernel
theorem dX2_appendSum_6 : decode cX2_appendSum 6 = .ok (.invokevirtual 25, 3) := by decide +kernel
theorem dX2_appendSum_9 : decode cX2_appendSum 9 = .ok (.istore_n 2, 1) := by decide +kernel
theorem dX2_appendSum_10 : decode cX2_appendSum 10 = .ok (.iconst 0, 1) := by decide +kernel
theorem dX2_appendSum_11 : decode cX2_appendSum 11 = .ok (.istore_n 3, 1) := by decide +kernel
theorem dX2_appendSum_12 : decode cX2_appendSum 12 = .ok (.iload_n 3, 1) := by decide +kernel
theorem dX2_appendSum_13 : decode cX2_appendSum 13 = .ok (.iconst 4, 1) := by decide +kernel
theorem dX2_appendSum_14 : decode cX2_appendSum 14 = .ok (.if_icmp .ge 19, 3) := by decide +kernel
theorem dX2_appendSum_17 : decode cX2_appendSum 17 = .ok (.aload_n 0, 1) := by decide +kernel
theorem dX2_appendSum_18 : decode cX2_appendSum 18 = .ok (.iload_n 2, 1) := by decide +kernel
theorem dX2_appendSum_19 : decode cX2_appendSum 19 = .ok (.bipush 8, 2) := by decide +kernel
theorem dX2_appendSum_21 : decode cX2_appendSum 21 = .ok (.iload_n 3, 1) := by decide +kernel
theorem dX2_appendSum_22 : decode cX2_appendSum 22 = .ok (.imul, 1) := by decide +kernel
theorem dX2_appendSum_23 : decode cX2_appendSum 23 = .ok (.iushr, 1) := by decide +kernel
theorem dX2_appendSum_24 : decode cX2_appendSum 24 = .ok (.invokevirtual 21, 3) := by decide +kernel
theorem dX2_appendSum_27 : decode cX2_appendSum 27 = .ok (.iinc 3 1, 3) := by decide +kernel
theorem dX2_appendSum_30 : decode cX2_appendSum 30 = .ok (.goto (-18), 3) := by decide +kernel
theorem dX2_appendSum_33 : decode cX2_appendSum 33 = .ok (.return_, 1) := by decide +kernel
theorem dX2_appendFoot_0 : decode cX2_appendFoot 0 = .ok (.iconst 3, 1) := by decide +kernel
theorem dX2_appendFoot_1 : decode cX2_appendFoot 1 = .ok (.istore_n 2, 1) := by decide +kernel
theorem dX2_appendFoot_2 : decode cX2_appendFoot 2 = .ok (.iload_n 2, 1) := by decide +kernel
theorem dX2_appendFoot_3 : decode cX2_appendFoot 3 = .ok (.ifCond .lt 19, 3) := by decide +kernel
theorem dX2_appendFoot_6 : decode cX2_appendFoot 6 = .ok (.aload_n 0, 1) := by decide +kernel
theorem dX2_appendFoot_7 : decode cX2_appendFoot 7 = .ok (.iload_n 1, 1) := by decide +kernel
theorem dX2_appendFoot_8 : decode cX2_appendFoot 8 = .ok (.bipush 8, 2) := by decide +kernel
theorem dX2_appendFoot_10 : decode cX2_appendFoot 10 = .ok (.iload_n 2, 1) := by decide +kernel
theorem dX2_appendFoot_11 : decode cX2_appendFoot 11 = .ok (.imul, 1) := by decide +kernel
theorem dX2_appendFoot_12 : decode cX2_appendFoot 12 = .ok (.iushr, 1) := by decide +kernel
theorem dX2_appendFoot_13 : decode cX2_appendFoot 13 = .ok (.invokevirtual 21, 3) := by decide +kernel
theorem dX2_appendFoot_16 : decode cX2_appendFoot 16 = .ok (.iinc 2 (-1), 3) := by decide +kernel
theorem dX2_appendFoot_19 : decode cX2_appendFoot 19 = .ok (.goto (-17), 3) := by decide +kernel
theorem dX2_appendFoot_22 : decode cX2_appendFoot 22 = .ok (.return_, 1) := by decide +kernel
theorem dX2_foot_0 : decode cX2_foot 0 = .ok (.lconst 0, 1) := by decide +kernel
theorem dX2_foot_1 : decode cX2_foot 1 = .ok (.lstore_n 1, 1) := by decide +kernel
theorem dX2_foot_2 : decode cX2_foot 2 = .ok (.aload_n 0, 1) := by decide +kernel
theorem dX2_foot_3 : decode cX2_foot 3 = .ok (.getfield 15, 3) := by decide +kernel
theorem dX2_foot_6 : decode cX2_foot 6 = .ok (.iconst 4, 1) := by decide +kernel
theorem dX2_foot_7 : decode cX2_foot 7 = .ok (.isub, 1) := by decide +kernel
theorem dX2_foot_8 : decode cX2_foot 8 = .ok (.istore_n 3, 1) := by decide +kernel
theorem dX2_foot_9 : decode cX2_foot 9 = .ok (.iload_n 3, 1) := by decide +kernel
theorem dX2_foot_10 : decode cX2_foot 10 = .ok (.aload_n 0, 1) := by decide +kernel
theorem dX2_foot_11 : decode cX2_foot 11 = .ok (.getfield 15, 3) := by decide +kernel
theorem dX2_foot_14 : decode cX2_foot 14 = .ok (.if_icmp .ge 21, 3) := by decide +kernel
theorem dX2_foot_17 : decode cX2_foot 17 = .ok (.lload_n 1, 1) := by decide +kernel
theorem dX2_foot_18 : decode cX2_foot 18 = .ok (.bipush 8, 2) := by decide +kernel
theorem dX2_foot_20 : decode cX2_foot 20 = .ok (.lshl, 1) := by decide +kernel
theorem dX2_foot_21 : decode cX2_foot 21 = .ok (.aload_n 0, 1) := by decide +kernel
theorem dX2_foot_22 : decode cX2_foot 22 = .ok (.iload_n 3, 1) := by decide +kernel
theorem dX2_foot_23 : decode cX2_foot 23 = .ok (.invokevirtual 29, 3) := by decide +kernel
theorem dX2_foot_26 : decode cX2_foot 26 = .ok (.i2l, 1) := by decide +kernel
theorem dX2_foot_27 : decode cX2_foot 27 = .ok (.ladd, 1) := by decide +kernel
theorem dX2_foot_28 : decode cX2_foot 28 = .ok (.lstore_n 1, 1) := by decide +kernel
theorem dX2_foot_29 : decode cX2_foot 29 = .ok (.iinc 3 1, 3) := by decide +kernel
theorem dX2_foot_32 : decode cX2_foot 32 = .ok (.goto (-23), 3) := by decide +kernel
theorem dX2_foot_35 : decode cX2_foot 35 = .ok (.lload_n 1, 1) := by decide +kernel
theorem dX2_foot_36 : decode cX2_foot 36 = .ok (.lreturn, 1) := by decide +kernel
theorem dX2_hasSum_0 : decode cX2_hasSum 0 = .ok (.aload_n 0, 1) := by decide +kernel
theorem dX2_hasSum_1 : decode cX2_hasSum 1 = .ok (.iload_n 1, 1) := by decide +kernel
theorem dX2_hasSum_2 : decode cX2_hasSum 2 = .ok (.iload_n 2, 1) := by decide +kernel
theorem dX2_hasSum_3 : decode cX2_hasSum 3 = .ok (.invokevirtual 25, 3) := by decide +kernel
theorem dX2_hasSum_6 : decode cX2_hasSum 6 = .ok (.istore_n 3, 1) := by decide +kernel
theorem dX2_hasSum_7 : decode cX2_hasSum 7 = .ok (.iconst 0, 1) := by decide +kernel
theorem dX2_hasSum_8 : decode cX2_hasSum 8 = .ok (.istore 4, 2) := by decide +kernel
theorem dX2_hasSum_10 : decode cX2_hasSum 10 = .ok (.iload 4, 2) := by decide +kernel
theorem dX2_hasSum_12 : decode cX2_hasSum 12 = .ok (.iconst 4, 1) := by decide +kernel
theorem dX2_hasSum_13 : decode cX2_hasSum 13 = .ok (.if_icmp .ge 33, 3) := by decide +kernel
theorem dX2_hasSum_16 : decode cX2_hasSum 16 = .ok (.aload_n 0, 1) := by decide +kernel
theorem dX2_hasSum_17 : decode cX2_hasSum 17 = .ok (.iload_n 2, 1) := by decide +kernel
theorem dX2_hasSum_18 : decode cX2_hasSum 18 = .ok (.iload 4, 2) := by decide +kernel
theorem dX2_hasSum_20 : decode cX2_hasSum 20 = .ok (.iadd, 1) := by decide +kernel
theorem dX2_hasSum_21 : decode cX2_hasSum 21 = .ok (.invokevirtual 29, 3) := by decide +kernel
theorem dX2_hasSum_24 : decode cX2_hasSum 24 = .ok (.iload_n 3, 1) := by decide +kernel
theorem dX2_hasSum_25 : decode cX2_hasSum 25 = .ok (.bipush 8, 2) := by decide +kernel
theorem dX2_hasSum_27 : decode cX2_hasSum 27 = .ok (.iload 4, 2) := by decide +kernel
theorem dX2_hasSum_29 : decode cX2_hasSum 29 = .ok (.imul, 1) := by decide +kernel
theorem dX2_hasSum_30 : decode cX2_hasSum 30 = .ok (.iushr, 1) := by decide +kernel
theorem dX2_hasSum_31 : decode cX2_hasSum 31 = .ok (.sipush 255, 3) := by decide +kernel
theorem dX2_hasSum_34 : decode cX2_hasSum 34 = .ok (.iand, 1) := by decide +kernel
theorem dX2_hasSum_35 : decode cX2_hasSum 35 = .ok (.if_icmp .eq 5, 3) := by decide +kernel
theorem dX2_hasSum_38 : decode cX2_hasSum 38 = .ok (.iconst 0, 1) := by decide +kernel
theorem dX2_hasSum_39 : decode cX2_hasSum 39 = .ok (.ireturn, 1) := by decide +kernel
theorem dX2_hasSum_40 : decode cX2_hasSum 40 = .ok (.iinc 4 1, 3) := by decide +kernel
theorem dX2_hasSum_43 : decode cX2_hasSum 43 = .ok (.goto (-33), 3) := by decide +kernel
theorem dX2_hasSum_46 : decode cX2_hasSum 46 = .ok (.iconst 1, 1) := by decide +kernel
theorem dX2_hasSum_47 : decode cX2_hasSum 47 = .ok (.ireturn, 1) := by decide +kernel
theorem dX2_sumOf_0 : decode cX2_sumOf 0 = .ok (.iconst (-1), 1) := by decide +kernel
theorem dX2_sumOf_1 : decode cX2_sumOf 1 = .ok (.istore_n 3, 1) := by decide +kernel
theorem dX2_sumOf_2 : decode cX2_sumOf 2 = .ok (.iload_n 1, 1) := by decide +kernel
theorem dX2_sumOf_3 : decode cX2_sumOf 3 = .ok (.istore 4, 2) := by decide +kernel
theorem dX2_sumOf_5 : decode cX2_sumOf 5 = .ok (.iload 4, 2) := by decide +kernel
theorem dX2_sumOf_7 : decode cX2_sumOf 7 = .ok (.iload_n 2, 1) := by decide +kernel
theorem dX2_sumOf_8 : decode cX2_sumOf 8 = .ok (.if_icmp .ge 44, 3) := by decide +kernel
theorem dX2_sumOf_11 : decode cX2_sumOf 11 = .ok (.iload_n 3, 1) := by decide +kernel
theorem dX2_sumOf_12 : decode cX2_sumOf 12 = .ok (.aload_n 0, 1) := by decide +kernel
theorem dX2_sumOf_13 : decode cX2_sumOf 13 = .ok (.iload 4, 2) := by decide +kernel
theorem dX2_sumOf_15 : decode cX2_sumOf 15 = .ok (.invokevirtual 29, 3) := by decide +kernel
theorem dX2_sumOf_18 : decode cX2_sumOf 18 = .ok (.ixor, 1) := by decide +kernel
theorem dX2_sumOf_19 : decode cX2_sumOf 19 = .ok (.istore_n 3, 1) := by decide +kernel
theorem dX2_sumOf_20 : decode cX2_sumOf 20 = .ok (.iload_n 3, 1) := by decide +kernel
theorem dX2_sumOf_21 : decode cX2_sumOf 21 = .ok (.iconst 4, 1) := by decide +kernel
theorem dX2_sumOf_22 : decode cX2_sumOf 22 = .ok (.iushr, 1) := by decide +kernel
theorem dX2_sumOf_23 : decode cX2_sumOf 23 = .ok (.getstatic 33, 3) := by decide +kernel
theorem dX2_sumOf_26 : decode cX2_sumOf 26 = .ok (.iload_n 3, 1) := by decide +kernel
theorem dX2_sumOf_27 : decode cX2_sumOf 27 = .ok (.bipush 15, 2) := by decide +kernel
theorem dX2_sumOf_29 : decode cX2_sumOf 29 = .ok (.iand, 1) := by decide +kernel
theorem dX2_sumOf_30 : decode cX2_sumOf 30 = .ok (.iaload, 1) := by decide +kernel
theorem dX2_sumOf_31 : decode cX2_sumOf 31 = .ok (.ixor, 1) := by decide +kernel
theorem dX2_sumOf_32 : decode cX2_sumOf 32 = .ok (.istore_n 3, 1) := by decide +kernel
theorem dX2_sumOf_33 : decode cX2_sumOf 33 = .ok (.iload_n 3, 1) := by decide +kernel
theorem dX2_sumOf_34 : decode cX2_sumOf 34 = .ok (.iconst 4, 1) := by decide +kernel
theorem dX2_sumOf_35 : decode cX2_sumOf 35 = .ok (.iushr, 1) := by decide +kernel
theorem dX2_sumOf_36 : decode cX2_sumOf 36 = .ok (.getstatic 33, 3) := by decide +kernel
theorem dX2_sumOf_39 : decode cX2_sumOf 39 = .ok (.iload_n 3, 1) := by decide +kernel
theorem dX2_sumOf_40 : decode cX2_sumOf 40 = .ok (.bipush 15, 2) := by decide +kernel
theorem dX2_sumOf_42 : decode cX2_sumOf 42 = .ok (.iand, 1) := by decide +kernel
theorem dX2_sumOf_43 : decode cX2_sumOf 43 = .ok (.iaload, 1) := by decide +kernel
theorem dX2_sumOf_44 : decode cX2_sumOf 44 = .ok (.ixor, 1) := by decide +kernel
theorem dX2_sumOf_45 : decode cX2_sumOf 45 = .ok (.istore_n 3, 1) := by decide +kernel
theorem dX2_sumOf_46 : decode cX2_sumOf 46 = .ok (.iinc 4 1, 3) := by decide +kernel
theorem dX2_sumOf_49 : decode cX2_sumOf 49 = .ok (.goto (-44), 3) := by decide +kernel
theorem dX2_sumOf_52 : decode cX2_sumOf 52 = .ok (.iload_n 3, 1) := by decide +kernel
theorem dX2_sumOf_53 : decode cX2_sumOf 53 = .ok (.iconst (-1), 1) := by decide +kernel
theorem dX2_sumOf_54 : decode cX2_sumOf 54 = .ok (.ixor, 1) := by decide +kernel
theorem dX2_sumOf_55 : decode cX2_sumOf 55 = .ok (.ireturn, 1) := by decide +kernel
theorem dX2_startReading_0 : decode cX2_startReading 0 = .ok (.aload_n 0, 1) := by decide +kernel
theorem dX2_startReading_1 : decode cX2_startReading 1 = .ok (.iload_n 1, 1) := by decide +kernel
theorem dX2_startReading_2 : decode cX2_startReading 2 = .ok (.putfield 37, 3) := by decide +kernel
theorem dX2_startReading_5 : decode cX2_startReading 5 = .ok (.aload_n 0, 1) := by decide +kernel
theorem dX2_startReading_6 : decode cX2_startReading 6 = .ok (.iload_n 2, 1) := by decide +kernel
theorem dX2_startReading_7 : decode cX2_startReading 7 = .ok (.putfield 40, 3) := by decide +kernel
theorem dX2_startReading_10 : decode cX2_startReading 10 = .ok (.aload_n 0, 1) := by decide +kernel
theorem dX2_startReading_11 : decode cX2_startReading 11 = .ok (.iconst 1, 1) := by decide +kernel
theorem dX2_startReading_12 : decode cX2_startReading 12 = .ok (.putfield 43, 3) := by decide +kernel
theorem dX2_startReading_15 : decode cX2_startReading 15 = .ok (.return_, 1) := by decide +kernel
theorem dX2_isReadToEnd_0 : decode cX2_isReadToEnd 0 = .ok (.aload_n 0, 1) := by decide +kernel
theorem dX2_isReadToEnd_1 : decode cX2_isReadToEnd 1 = .ok (.getfield 37, 3) := by decide +kernel
theorem dX2_isReadToEnd_4 : decode cX2_isReadToEnd 4 = .ok (.aload_n 0, 1) := by decide +kernel
theorem dX2_isReadToEnd_5 : decode cX2_isReadToEnd 5 = .ok (.getfield 40, 3) := by decide +kernel
theorem dX2_isReadToEnd_8 : decode cX2_isReadToEnd 8 = .ok (.if_icmp .lt 7, 3) := by decide +kernel
theorem dX2_isReadToEnd_11 : decode cX2_isReadToEnd 11 = .ok (.iconst 1, 1) := by decide +kernel
theorem dX2_isReadToEnd_12 : decode cX2_isReadToEnd 12 = .ok (.goto 4, 3) := by decide +kernel
theorem dX2_isReadToEnd_15 : decode cX2_isReadToEnd 15 = .ok (.iconst 0, 1) := by decide +kernel
theorem dX2_isReadToEnd_16 : decode cX2_isReadToEnd 16 = .ok (.ireturn, 1) := by decide +kernel
theorem dX2_takeNumber_0 : decode cX2_takeNumber 0 = .ok (.lconst 0, 1) := by decide +kernel
theorem dX2_takeNumber_1 : decode cX2_takeNumber 1 = .ok (.lstore_n 1, 1) := by decide +kernel
theorem dX2_takeNumber_2 : decode cX2_takeNumber 2 = .ok (.iconst 0, 1) := by decide +kernel
theorem dX2_takeNumber_3 : decode cX2_takeNumber 3 = .ok (.istore_n 3, 1) := by decide +kernel
theorem dX2_takeNumber_4 : decode cX2_takeNumber 4 = .ok (.iload_n 3, 1) := by decide +kernel
