/-! decode rows -/
theorem dX3_writeTable_0 : decode cX3_writeTable 0 = .ok (.aload_n 0, 1) := by decide +kernel
theorem dX3_writeTable_1 : decode cX3_writeTable 1 = .ok (.iconst 0, 1) := by decide +kernel
theorem dX3_writeTable_2 : decode cX3_writeTable 2 = .ok (.putfield 75, 3) := by decide +kernel
theorem dX3_writeTable_5 : decode cX3_writeTable 5 = .ok (.aload_n 0, 1) := by decide +kernel
theorem dX3_writeTable_6 : decode cX3_writeTable 6 = .ok (.getfield 23, 3) := by decide +kernel
theorem dX3_writeTable_9 : decode cX3_writeTable 9 = .ok (.iconst 0, 1) := by decide +kernel
theorem dX3_writeTable_10 : decode cX3_writeTable 10 = .ok (.putfield 60, 3) := by decide +kernel
theorem dX3_writeTable_13 : decode cX3_writeTable 13 = .ok (.iconst 0, 1) := by decide +kernel
theorem dX3_writeTable_14 : decode cX3_writeTable 14 = .ok (.istore_n 1, 1) := by decide +kernel
theorem dX3_writeTable_15 : decode cX3_writeTable 15 = .ok (.iconst 0, 1) := by decide +kernel
theorem dX3_writeTable_16 : decode cX3_writeTable 16 = .ok (.istore_n 2, 1) := by decide +kernel
theorem dX3_writeTable_17 : decode cX3_writeTable 17 = .ok (.iload_n 2, 1) := by decide +kernel
theorem dX3_writeTable_18 : decode cX3_writeTable 18 = .ok (.aload_n 0, 1) := by decide +kernel
theorem dX3_writeTable_19 : decode cX3_writeTable 19 = .ok (.getfield 44, 3) := by decide +kernel
theorem dX3_writeTable_22 : decode cX3_writeTable 22 = .ok (.if_icmp .ge 23, 3) := by decide +kernel
theorem dX3_writeTable_25 : decode cX3_writeTable 25 = .ok (.aload_n 0, 1) := by decide +kernel
theorem dX3_writeTable_26 : decode cX3_writeTable 26 = .ok (.getfield 17, 3) := by decide +kernel
theorem dX3_writeTable_29 : decode cX3_writeTable 29 = .ok (.iload_n 1, 1) := by decide +kernel
theorem dX3_writeTable_30 : decode cX3_writeTable 30 = .ok (.aload_n 0, 1) := by decide +kernel
theorem dX3_writeTable_31 : decode cX3_writeTable 31 = .ok (.iload_n 2, 1) := by decide +kernel
theorem dX3_writeTable_32 : decode cX3_writeTable 32 = .ok (.invokevirtual 169, 3) := by decide +kernel
theorem dX3_writeTable_35 : decode cX3_writeTable 35 = .ok (.iastore, 1) := by decide +kernel
theorem dX3_writeTable_36 : decode cX3_writeTable 36 = .ok (.iinc 1 1, 3) := by decide +kernel
theorem dX3_writeTable_39 : decode cX3_writeTable 39 = .ok (.iinc 2 8, 3) := by decide +kernel
theorem dX3_writeTable_42 : decode cX3_writeTable 42 = .ok (.goto (-25), 3) := by decide +kernel
theorem dX3_writeTable_45 : decode cX3_writeTable 45 = .ok (.aload_n 0, 1) := by decide +kernel
theorem dX3_writeTable_46 : decode cX3_writeTable 46 = .ok (.iload_n 1, 1) := by decide +kernel
theorem dX3_writeTable_47 : decode cX3_writeTable 47 = .ok (.invokevirtual 172, 3) := by decide +kernel
theorem dX3_writeTable_50 : decode cX3_writeTable 50 = .ok (.aload_n 0, 1) := by decide +kernel
theorem dX3_writeTable_51 : decode cX3_writeTable 51 = .ok (.iconst 0, 1) := by decide +kernel
theorem dX3_writeTable_52 : decode cX3_writeTable 52 = .ok (.putfield 44, 3) := by decide +kernel
theorem dX3_writeTable_55 : decode cX3_writeTable 55 = .ok (.return_, 1) := by decide +kernel
theorem dX3_writeBlock_0 : decode cX3_writeBlock 0 = .ok (.aload_n 0, 1) := by decide +kernel
theorem dX3_writeBlock_1 : decode cX3_writeBlock 1 = .ok (.getfield 23, 3) := by decide +kernel
theorem dX3_writeBlock_4 : decode cX3_writeBlock 4 = .ok (.getfield 60, 3) := by decide +kernel
theorem dX3_writeBlock_7 : decode cX3_writeBlock 7 = .ok (.istore_n 2, 1) := by decide +kernel
theorem dX3_writeBlock_8 : decode cX3_writeBlock 8 = .ok (.iload_n 1, 1) := by decide +kernel
theorem dX3_writeBlock_9 : decode cX3_writeBlock 9 = .ok (.bipush 8, 2) := by decide +kernel
theorem dX3_writeBlock_11 : decode cX3_writeBlock 11 = .ok (.iadd, 1) := by decide +kernel
theorem dX3_writeBlock_12 : decode cX3_writeBlock 12 = .ok (.aload_n 0, 1) := by decide +kernel
theorem dX3_writeBlock_13 : decode cX3_writeBlock 13 = .ok (.getfield 44, 3) := by decide +kernel
theorem dX3_writeBlock_16 : decode cX3_writeBlock 16 = .ok (.invokestatic 175, 3) := by decide +kernel
theorem dX3_writeBlock_19 : decode cX3_writeBlock 19 = .ok (.istore_n 3, 1) := by decide +kernel
theorem dX3_writeBlock_20 : decode cX3_writeBlock 20 = .ok (.aload_n 0, 1) := by decide +kernel
theorem dX3_writeBlock_21 : decode cX3_writeBlock 21 = .ok (.getfield 23, 3) := by decide +kernel
theorem dX3_writeBlock_24 : decode cX3_writeBlock 24 = .ok (.aload_n 0, 1) := by decide +kernel
theorem dX3_writeBlock_25 : decode cX3_writeBlock 25 = .ok (.getfield 9, 3) := by decide +kernel
theorem dX3_writeBlock_28 : decode cX3_writeBlock 28 = .ok (.iload_n 1, 1) := by decide +kernel
theorem dX3_writeBlock_29 : decode cX3_writeBlock 29 = .ok (.iaload, 1) := by decide +kernel
theorem dX3_writeBlock_30 : decode cX3_writeBlock 30 = .ok (.i2l, 1) := by decide +kernel
theorem dX3_writeBlock_31 : decode cX3_writeBlock 31 = .ok (.invokestatic 181, 3) := by decide +kernel
theorem dX3_writeBlock_34 : decode cX3_writeBlock 34 = .ok (.invokevirtual 185, 3) := by decide +kernel
theorem dX3_writeBlock_37 : decode cX3_writeBlock 37 = .ok (.aload_n 0, 1) := by decide +kernel
theorem dX3_writeBlock_38 : decode cX3_writeBlock 38 = .ok (.getfield 23, 3) := by decide +kernel
theorem dX3_writeBlock_41 : decode cX3_writeBlock 41 = .ok (.aload_n 0, 1) := by decide +kernel
theorem dX3_writeBlock_42 : decode cX3_writeBlock 42 = .ok (.getfield 13, 3) := by decide +kernel
theorem dX3_writeBlock_45 : decode cX3_writeBlock 45 = .ok (.iload_n 1, 1) := by decide +kernel
theorem dX3_writeBlock_46 : decode cX3_writeBlock 46 = .ok (.laload, 1) := by decide +kernel
theorem dX3_writeBlock_47 : decode cX3_writeBlock 47 = .ok (.invokestatic 181, 3) := by decide +kernel
theorem dX3_writeBlock_50 : decode cX3_writeBlock 50 = .ok (.invokevirtual 185, 3) := by decide +kernel
theorem dX3_writeBlock_53 : decode cX3_writeBlock 53 = .ok (.iload_n 1, 1) := by decide +kernel
theorem dX3_writeBlock_54 : decode cX3_writeBlock 54 = .ok (.iconst 1, 1) := by decide +kernel
theorem dX3_writeBlock_55 : decode cX3_writeBlock 55 = .ok (.iadd, 1) := by decide +kernel
theorem dX3_writeBlock_56 : decode cX3_writeBlock 56 = .ok (.istore 4, 2) := by decide +kernel
theorem dX3_writeBlock_58 : decode cX3_writeBlock 58 = .ok (.iload 4, 2) := by decide +kernel
theorem dX3_writeBlock_60 : decode cX3_writeBlock 60 = .ok (.iload_n 3, 1) := by decide +kernel
theorem dX3_writeBlock_61 : decode cX3_writeBlock 61 = .ok (.if_icmp .ge 54, 3) := by decide +kernel
theorem dX3_writeBlock_64 : decode cX3_writeBlock 64 = .ok (.aload_n 0, 1) := by decide +kernel
theorem dX3_writeBlock_65 : decode cX3_writeBlock 65 = .ok (.getfield 23, 3) := by decide +kernel
theorem dX3_writeBlock_68 : decode cX3_writeBlock 68 = .ok (.aload_n 0, 1) := by decide +kernel
theorem dX3_writeBlock_69 : decode cX3_writeBlock 69 = .ok (.getfield 9, 3) := by decide +kernel
theorem dX3_writeBlock_72 : decode cX3_writeBlock 72 = .ok (.iload 4, 2) := by decide +kernel
theorem dX3_writeBlock_74 : decode cX3_writeBlock 74 = .ok (.iaload, 1) := by decide +kernel
theorem dX3_writeBlock_75 : decode cX3_writeBlock 75 = .ok (.i2l, 1) := by decide +kernel
theorem dX3_writeBlock_76 : decode cX3_writeBlock 76 = .ok (.aload_n 0, 1) := by decide +kernel
theorem dX3_writeBlock_77 : decode cX3_writeBlock 77 = .ok (.getfield 9, 3) := by decide +kernel
theorem dX3_writeBlock_80 : decode cX3_writeBlock 80 = .ok (.iload 4, 2) := by decide +kernel
theorem dX3_writeBlock_82 : decode cX3_writeBlock 82 = .ok (.iconst 1, 1) := by decide +kernel
theorem dX3_writeBlock_83 : decode cX3_writeBlock 83 = .ok (.isub, 1) := by decide +kernel
theorem dX3_writeBlock_84 : decode cX3_writeBlock 84 = .ok (.iaload, 1) := by decide +kernel
theorem dX3_writeBlock_85 : decode cX3_writeBlock 85 = .ok (.i2l, 1) := by decide +kernel
theorem dX3_writeBlock_86 : decode cX3_writeBlock 86 = .ok (.lsub, 1) := by decide +kernel
theorem dX3_writeBlock_87 : decode cX3_writeBlock 87 = .ok (.lconst 1, 1) := by decide +kernel
theorem dX3_writeBlock_88 : decode cX3_writeBlock 88 = .ok (.lsub, 1) := by decide +kernel
theorem dX3_writeBlock_89 : decode cX3_writeBlock 89 = .ok (.invokevirtual 185, 3) := by decide +kernel
theorem dX3_writeBlock_92 : decode cX3_writeBlock 92 = .ok (.aload_n 0, 1) := by decide +kernel
theorem dX3_writeBlock_93 : decode cX3_writeBlock 93 = .ok (.getfield 23, 3) := by decide +kernel
theorem dX3_writeBlock_96 : decode cX3_writeBlock 96 = .ok (.aload_n 0, 1) := by decide +kernel
theorem dX3_writeBlock_97 : decode cX3_writeBlock 97 = .ok (.getfield 13, 3) := by decide +kernel
theorem dX3_writeBlock_100 : decode cX3_writeBlock 100 = .ok (.iload 4, 2) := by decide +kernel
theorem dX3_writeBlock_102 : decode cX3_writeBlock 102 = .ok (.laload, 1) := by decide +kernel
theorem dX3_writeBlock_103 : decode cX3_writeBlock 103 = .ok (.invokestatic 181, 3) := by decide +kernel
theorem dX3_writeBlock_106 : decode cX3_writeBlock 106 = .ok (.invokevirtual 185, 3) := by decide +kernel
theorem dX3_writeBlock_109 : decode cX3_writeBlock 109 = .ok (.iinc 4 1, 3) := by decide +kernel
theorem dX3_writeBlock_112 : decode cX3_writeBlock 112 = .ok (.goto (-54), 3) := by decide +kernel
theorem dX3_writeBlock_115 : decode cX3_writeBlock 115 = .ok (.aload_n 0, 1) := by decide +kernel
theorem dX3_writeBlock_116 : decode cX3_writeBlock 116 = .ok (.getfield 23, 3) := by decide +kernel
theorem dX3_writeBlock_119 : decode cX3_writeBlock 119 = .ok (.iload_n 2, 1) := by decide +kernel
theorem dX3_writeBlock_120 : decode cX3_writeBlock 120 = .ok (.invokevirtual 189, 3) := by decide +kernel
theorem dX3_writeBlock_123 : decode cX3_writeBlock 123 = .ok (.aload_n 0, 1) := by decide +kernel
theorem dX3_writeBlock_124 : decode cX3_writeBlock 124 = .ok (.getfield 23, 3) := by decide +kernel
theorem dX3_writeBlock_127 : decode cX3_writeBlock 127 = .ok (.getfield 60, 3) := by decide +kernel
theorem dX3_writeBlock_130 : decode cX3_writeBlock 130 = .ok (.iload_n 2, 1) := by decide +kernel
theorem dX3_writeBlock_131 : decode cX3_writeBlock 131 = .ok (.isub, 1) := by decide +kernel
theorem dX3_writeBlock_132 : decode cX3_writeBlock 132 = .ok (.ireturn, 1) := by decide +kernel
theorem dX3_writeIndex_0 : decode cX3_writeIndex 0 = .ok (.aload_n 0, 1) := by decide +kernel
theorem dX3_writeIndex_1 : decode cX3_writeIndex 1 = .ok (.getfield 23, 3) := by decide +kernel
theorem dX3_writeIndex_4 : decode cX3_writeIndex 4 = .ok (.getfield 60, 3) := by decide +kernel
theorem dX3_writeIndex_7 : decode cX3_writeIndex 7 = .ok (.istore_n 2, 1) := by decide +kernel
theorem dX3_writeIndex_8 : decode cX3_writeIndex 8 = .ok (.aload_n 0, 1) := by decide +kernel
theorem dX3_writeIndex_9 : decode cX3_writeIndex 9 = .ok (.getfield 23, 3) := by decide +kernel
theorem dX3_writeIndex_12 : decode cX3_writeIndex 12 = .ok (.iload_n 1, 1) := by decide +kernel
theorem dX3_writeIndex_13 : decode cX3_writeIndex 13 = .ok (.i2l, 1) := by decide +kernel
theorem dX3_writeIndex_14 : decode cX3_writeIndex 14 = .ok (.invokevirtual 185, 3) := by decide +kernel
theorem dX3_writeIndex_17 : decode cX3_writeIndex 17 = .ok (.iconst 0, 1) := by decide +kernel
theorem dX3_writeIndex_18 : decode cX3_writeIndex 18 = .ok (.istore_n 3, 1) := by decide +kernel
theorem dX3_writeIndex_19 : decode cX3_writeIndex 19 = .ok (.iload_n 3, 1) := by decide +kernel
theorem dX3_writeIndex_20 : decode cX3_writeIndex 20 = .ok (.iload_n 1, 1) := by decide +kernel
theorem dX3_writeIndex_21 : decode cX3_writeIndex 21 = .ok (.if_icmp .ge 43, 3) := by decide +kernel
theorem dX3_writeIndex_24 : decode cX3_writeIndex 24 = .ok (.aload_n 0, 1) := by decide +kernel
theorem dX3_writeIndex_25 : decode cX3_writeIndex 25 = .ok (.getfield 23, 3) := by decide +kernel
theorem dX3_writeIndex_28 : decode cX3_writeIndex 28 = .ok (.aload_n 0, 1) := by decide +kernel
theorem dX3_writeIndex_29 : decode cX3_writeIndex 29 = .ok (.getfield 17, 3) := by decide +kernel
theorem dX3_writeIndex_32 : decode cX3_writeIndex 32 = .ok (.iload_n 3, 1) := by decide +kernel
theorem dX3_writeIndex_33 : decode cX3_writeIndex 33 = .ok (.iaload, 1) := by decide +kernel
theorem dX3_writeIndex_34 : decode cX3_writeIndex 34 = .ok (.i2l, 1) := by decide +kernel
theorem dX3_writeIndex_35 : decode cX3_writeIndex 35 = .ok (.invokevirtual 185, 3) := by decide +kernel
theorem dX3_writeIndex_38 : decode cX3_writeIndex 38 = .ok (.aload_n 0, 1) := by decide +kernel
theorem dX3_writeIndex_39 : decode cX3_writeIndex 39 = .ok (.getfield 23, 3) := by decide +kernel
theorem dX3_writeIndex_42 : decode cX3_writeIndex 42 = .ok (.aload_n 0, 1) := by decide +kernel
theorem dX3_writeIndex_43 : decode cX3_writeIndex 43 = .ok (.getfield 9, 3) := by decide +kernel
theorem dX3_writeIndex_46 : decode cX3_writeIndex 46 = .ok (.iload_n 3, 1) := by decide +kernel
theorem dX3_writeIndex_47 : decode cX3_writeIndex 47 = .ok (.bipush 8, 2) := by decide +kernel
theorem dX3_writeIndex_49 : decode cX3_writeIndex 49 = .ok (.imul, 1) := by decide +kernel
theorem dX3_writeIndex_50 : decode cX3_writeIndex 50 = .ok (.iaload, 1) := by decide +kernel
theorem dX3_writeIndex_51 : decode cX3_writeIndex 51 = .ok (.i2l, 1) := by decide +kernel
theorem dX3_writeIndex_52 : decode cX3_writeIndex 52 = .ok (.invokestatic 181, 3) := by decide +kernel
theorem dX3_writeIndex_55 : decode cX3_writeIndex 55 = .ok (.invokevirtual 185, 3) := by decide +kernel
theorem dX3_writeIndex_58 : decode cX3_writeIndex 58 = .ok (.iinc 3 1, 3) := by decide +kernel
theorem dX3_writeIndex_61 : decode cX3_writeIndex 61 = .ok (.goto (-42), 3) := by decide +kernel
theorem dX3_writeIndex_64 : decode cX3_writeIndex 64 = .ok (.aload_n 0, 1) := by decide +kernel
theorem dX3_writeIndex_65 : decode cX3_writeIndex 65 = .ok (.getfield 23, 3) := by decide +kernel
theorem dX3_writeIndex_68 : decode cX3_writeIndex 68 = .ok (.getfield 60, 3) := by decide +kernel
theorem dX3_writeIndex_71 : decode cX3_writeIndex 71 = .ok (.iload_n 2, 1) := by decide +kernel
theorem dX3_writeIndex_72 : decode cX3_writeIndex 72 = .ok (.isub, 1) := by decide +kernel
theorem dX3_writeIndex_73 : decode cX3_writeIndex 73 = .ok (.istore_n 3, 1) := by decide +kernel
theorem dX3_writeIndex_74 : decode cX3_writeIndex 74 = .ok (.aload_n 0, 1) := by decide +kernel
theorem dX3_writeIndex_75 : decode cX3_writeIndex 75 = .ok (.getfield 23, 3) := by decide +kernel
theorem dX3_writeIndex_78 : decode cX3_writeIndex 78 = .ok (.iload_n 2, 1) := by decide +kernel
theorem dX3_writeIndex_79 : decode cX3_writeIndex 79 = .ok (.invokevirtual 189, 3) := by decide +kernel
theorem dX3_writeIndex_82 : decode cX3_writeIndex 82 = .ok (.aload_n 0, 1) := by decide +kernel
theorem dX3_writeIndex_83 : decode cX3_writeIndex 83 = .ok (.getfield 23, 3) := by decide +kernel
theorem dX3_writeIndex_86 : decode cX3_writeIndex 86 = .ok (.iload_n 3, 1) := by decide +kernel
theorem dX3_writeIndex_87 : decode cX3_writeIndex 87 = .ok (.invokevirtual 192, 3) := by decide +kernel
theorem dX3_writeIndex_90 : decode cX3_writeIndex 90 = .ok (.return_, 1) := by decide +kernel
theorem dX3_fold_0 : decode cX3_fold 0 = .ok (.lload_n 0, 1) := by decide +kernel
theorem dX3_fold_1 : decode cX3_fold 1 = .ok (.lconst 0, 1) := by decide +kernel
theorem dX3_fold_2 : decode cX3_fold 2 = .ok (.lcmp, 1) := by decide +kernel
theorem dX3_fold_3 : decode cX3_fold 3 = .ok (.ifCond .ge 13, 3) := by decide +kernel
theorem dX3_fold_6 : decode cX3_fold 6 = .ok (.ldc2_w 195, 3) := by decide +kernel
theorem dX3_fold_9 : decode cX3_fold 9 = .ok (.lload_n 0, 1) := by decide +kernel
theorem dX3_fold_10 : decode cX3_fold 10 = .ok (.lmul, 1) := by decide +kernel
theorem dX3_fold_11 : decode cX3_fold 11 = .ok (.lconst 1, 1) := by decide +kernel
theorem dX3_fold_12 : decode cX3_fold 12 = .ok (.lsub, 1) := by decide +kernel
theorem dX3_fold_13 : decode cX3_fold 13 = .ok (.goto 8, 3) := by decide +kernel
theorem dX3_fold_16 : decode cX3_fold 16 = .ok (.ldc2_w 197, 3) := by decide +kernel
theorem dX3_fold_19 : decode cX3_fold 19 = .ok (.lload_n 0, 1) := by decide +kernel
theorem dX3_fold_20 : decode cX3_fold 20 = .ok (.lmul, 1) := by decide +kernel
theorem dX3_fold_21 : decode cX3_fold 21 = .ok (.lreturn, 1) := by decide +kernel
theorem dX3_unfold_0 : decode cX3_unfold 0 = .ok (.lload_n 0, 1) := by decide +kernel
theorem dX3_unfold_1 : decode cX3_unfold 1 = .ok (.iconst 1, 1) := by decide +kernel
theorem dX3_unfold_2 : decode cX3_unfold 2 = .ok (.lushr, 1) := by decide +kernel
theorem dX3_unfold_3 : decode cX3_unfold 3 = .ok (.lstore_n 2, 1) := by decide +kernel
theorem dX3_unfold_4 : decode cX3_unfold 4 = .ok (.lload_n 0, 1) := by decide +kernel
theorem dX3_unfold_5 : decode cX3_unfold 5 = .ok (.lconst 1, 1) := by decide +kernel
theorem dX3_unfold_6 : decode cX3_unfold 6 = .ok (.land, 1) := by decide +kernel
theorem dX3_unfold_7 : decode cX3_unfold 7 = .ok (.lconst 0, 1) := by decide +kernel
theorem dX3_unfold_8 : decode cX3_unfold 8 = .ok (.lcmp, 1) := by decide +kernel
theorem dX3_unfold_9 : decode cX3_unfold 9 = .ok (.ifCond .ne 7, 3) := by decide +kernel
theorem dX3_unfold_12 : decode cX3_unfold 12 = .ok (.lload_n 2, 1) := by decide +kernel
theorem dX3_unfold_13 : decode cX3_unfold 13 = .ok (.goto 7, 3) := by decide +kernel
theorem dX3_unfold_16 : decode cX3_unfold 16 = .ok (.lload_n 2, 1) := by decide +kernel
theorem dX3_unfold_17 : decode cX3_unfold 17 = .ok (.lneg, 1) := by decide +kernel
theorem dX3_unfold_18 : decode cX3_unfold 18 = .ok (.lconst 1, 1) := by decide +kernel
theorem dX3_unfold_19 : decode cX3_unfold 19 = .ok (.lsub, 1) := by decide +kernel
theorem dX3_unfold_20 : decode cX3_unfold 20 = .ok (.lreturn, 1) := by decide +kernel
theorem dX4_init_0 : decode cX4_init 0 = .ok (.aload_n 0, 1) := by decide +kernel
theorem dX4_init_1 : decode cX4_init 1 = .ok (.invokespecial 1, 3) := by decide +kernel
theorem dX4_init_4 : decode cX4_init 4 = .ok (.aload_n 0, 1) := by decide +kernel
theorem dX4_init_5 : decode cX4_init 5 = .ok (.sipush 300, 3) := by decide +kernel
theorem dX4_init_8 : decode cX4_init 8 = .ok (.newarray .int, 2) := by decide +kernel
theorem dX4_init_10 : decode cX4_init 10 = .ok (.putfield 9, 3) := by decide +kernel
theorem dX4_init_13 : decode cX4_init 13 = .ok (.aload_n 0, 1) := by decide +kernel
theorem dX4_init_14 : decode cX4_init 14 = .ok (.sipush 300, 3) := by decide +kernel
theorem dX4_init_17 : decode cX4_init 17 = .ok (.newarray .long, 2) := by decide +kernel
theorem dX4_init_19 : decode cX4_init 19 = .ok (.putfield 13, 3) := by decide +kernel
theorem dX4_init_22 : decode cX4_init 22 = .ok (.aload_n 0, 1) := by decide +kernel
theorem dX4_init_23 : decode cX4_init 23 = .ok (.sipush 6000, 3) := by decide +kernel
theorem dX4_init_26 : decode cX4_init 26 = .ok (.newarray .byte, 2) := by decide +kernel
theorem dX4_init_28 : decode cX4_init 28 = .ok (.putfield 17, 3) := by decide +kernel
theorem dX4_init_31 : decode cX4_init 31 = .ok (.aload_n 0, 1) := by decide +kernel
theorem dX4_init_32 : decode cX4_init 32 = .ok (.sipush 6000, 3) := by decide +kernel
theorem dX4_init_35 : decode cX4_init 35 = .ok (.newarray .int, 2) := by decide +kernel
theorem dX4_init_37 : decode cX4_init 37 = .ok (.putfield 21, 3) := by decide +kernel
theorem dX4_init_40 : decode cX4_init 40 = .ok (.aload_n 0, 1) := by decide +kernel
theorem dX4_init_41 : decode cX4_init 41 = .ok (.sipush 6000, 3) := by decide +kernel
theorem dX4_init_44 : decode cX4_init 44 = .ok (.newarray .int, 2) := by decide +kernel
theorem dX4_init_46 : decode cX4_init 46 = .ok (.putfield 24, 3) := by decide +kernel
theorem dX4_init_49 : decode cX4_init 49 = .ok (.aload_n 0, 1) := by decide +kernel
theorem dX4_init_50 : decode cX4_init 50 = .ok (.sipush 6000, 3) := by decide +kernel
theorem dX4_init_53 : decode cX4_init 53 = .ok (.newarray .int, 2) := by decide +kernel
theorem dX4_init_55 : decode cX4_init 55 = .ok (.putfield 27, 3) := by decide +kernel
theorem dX4_init_58 : decode cX4_init 58 = .ok (.aload_n 0, 1) := by decide +kernel
theorem dX4_init_59 : decode cX4_init 59 = .ok (.sipush 6000, 3) := by decide +kernel
theorem dX4_init_62 : decode cX4_init 62 = .ok (.newarray .int, 2) := by decide +kernel
theorem dX4_init_64 : decode cX4_init 64 = .ok (.putfield 30, 3) := by decide +kernel
theorem dX4_init_67 : decode cX4_init 67 = .ok (.aload_n 0, 1) := by decide +kernel
theorem dX4_init_68 : decode cX4_init 68 = .ok (.sipush 6000, 3) := by decide +kernel
theorem dX4_init_71 : decode cX4_init 71 = .ok (.newarray .long, 2) := by decide +kernel
theorem dX4_init_73 : decode cX4_init 73 = .ok (.putfield 33, 3) := by decide +kernel
theorem dX4_init_76 : decode cX4_init 76 = .ok (.aload_n 0, 1) := by decide +kernel
theorem dX4_init_77 : decode cX4_init 77 = .ok (.invokevirtual 36, 3) := by decide +kernel
theorem dX4_init_80 : decode cX4_init 80 = .ok (.return_, 1) := by decide +kernel
theorem dX4_thrown_0 : decode cX4_thrown 0 = .ok (.aload_n 0, 1) := by decide +kernel
theorem dX4_thrown_1 : decode cX4_thrown 1 = .ok (.getfield 39, 3) := by decide +kernel
theorem dX4_thrown_4 : decode cX4_thrown 4 = .ok (.ireturn, 1) := by decide +kernel
theorem dX4_number_0 : decode cX4_number 0 = .ok (.lload_n 1, 1) := by decide +kernel
theorem dX4_number_1 : decode cX4_number 1 = .ok (.lstore_n 3, 1) := by decide +kernel
theorem dX4_number_2 : decode cX4_number 2 = .ok (.lload_n 3, 1) := by decide +kernel
theorem dX4_number_3 : decode cX4_number 3 = .ok (.lconst 0, 1) := by decide +kernel
theorem dX4_number_4 : decode cX4_number 4 = .ok (.lcmp, 1) := by decide +kernel
theorem dX4_number_5 : decode cX4_number 5 = .ok (.ifCond .lt 11, 3) := by decide +kernel
theorem dX4_number_8 : decode cX4_number 8 = .ok (.lload_n 3, 1) := by decide +kernel
theorem dX4_number_9 : decode cX4_number 9 = .ok (.ldc2_w 43, 3) := by decide +kernel
theorem dX4_number_12 : decode cX4_number 12 = .ok (.lcmp, 1) := by decide +kernel
theorem dX4_number_13 : decode cX4_number 13 = .ok (.ifCond .le 38, 3) := by decide +kernel
theorem dX4_number_16 : decode cX4_number 16 = .ok (.aload_n 0, 1) := by decide +kernel
theorem dX4_number_17 : decode cX4_number 17 = .ok (.getfield 17, 3) := by decide +kernel
theorem dX4_number_20 : decode cX4_number 20 = .ok (.aload_n 0, 1) := by decide +kernel
theorem dX4_number_21 : decode cX4_number 21 = .ok (.dup, 1) := by decide +kernel
theorem dX4_number_22 : decode cX4_number 22 = .ok (.getfield 45, 3) := by decide +kernel
theorem dX4_number_25 : decode cX4_number 25 = .ok (.dup_x1, 1) := by decide +kernel
theorem dX4_number_26 : decode cX4_number 26 = .ok (.iconst 1, 1) := by decide +kernel
theorem dX4_number_27 : decode cX4_number 27 = .ok (.iadd, 1) := by decide +kernel
theorem dX4_number_28 : decode cX4_number 28 = .ok (.putfield 45, 3) := by decide +kernel
theorem dX4_number_31 : decode cX4_number 31 = .ok (.lload_n 3, 1) := by decide +kernel
theorem dX4_number_32 : decode cX4_number 32 = .ok (.ldc2_w 43, 3) := by decide +kernel
theorem dX4_number_35 : decode cX4_number 35 = .ok (.land, 1) := by decide +kernel
theorem dX4_number_36 : decode cX4_number 36 = .ok (.ldc2_w 48, 3) := by decide +kernel
theorem dX4_number_39 : decode cX4_number 39 = .ok (.lor, 1) := by decide +kernel
theorem dX4_number_40 : decode cX4_number 40 = .ok (.l2i, 1) := by decide +kernel
theorem dX4_number_41 : decode cX4_number 41 = .ok (.i2b, 1) := by decide +kernel
theorem dX4_number_42 : decode cX4_number 42 = .ok (.bastore, 1) := by decide +kernel
theorem dX4_number_43 : decode cX4_number 43 = .ok (.lload_n 3, 1) := by decide +kernel
theorem dX4_number_44 : decode cX4_number 44 = .ok (.bipush 7, 2) := by decide +kernel
theorem dX4_number_46 : decode cX4_number 46 = .ok (.lushr, 1) := by decide +kernel
theorem dX4_number_47 : decode cX4_number 47 = .ok (.lstore_n 3, 1) := by decide +kernel
theorem dX4_number_48 : decode cX4_number 48 = .ok (.goto (-46), 3) := by decide +kernel
theorem dX4_number_51 : decode cX4_number 51 = .ok (.aload_n 0, 1) := by decide +kernel
theorem dX4_number_52 : decode cX4_number 52 = .ok (.getfield 17, 3) := by decide +kernel
theorem dX4_number_55 : decode cX4_number 55 = .ok (.aload_n 0, 1) := by decide +kernel
theorem dX4_number_56 : decode cX4_number 56 = .ok (.dup, 1) := by decide +kernel
theorem dX4_number_57 : decode cX4_number 57 = .ok (.getfield 45, 3) := by decide +kernel
theorem dX4_number_60 : decode cX4_number 60 = .ok (.dup_x1, 1) := by decide +kernel
theorem dX4_number_61 : decode cX4_number 61 = .ok (.iconst 1, 1) := by decide +kernel
theorem dX4_number_62 : decode cX4_number 62 = .ok (.iadd, 1) := by decide +kernel
theorem dX4_number_63 : decode cX4_number 63 = .ok (.putfield 45, 3) := by decide +kernel
theorem dX4_number_66 : decode cX4_number 66 = .ok (.lload_n 3, 1) := by decide +kernel
theorem dX4_number_67 : decode cX4_number 67 = .ok (.l2i, 1) := by decide +kernel
theorem dX4_number_68 : decode cX4_number 68 = .ok (.i2b, 1) := by decide +kernel
theorem dX4_number_69 : decode cX4_number 69 = .ok (.bastore, 1) := by decide +kernel
theorem dX4_number_70 : decode cX4_number 70 = .ok (.return_, 1) := by decide +kernel
theorem dX4_fold_0 : decode cX4_fold 0 = .ok (.lload_n 0, 1) := by decide +kernel
theorem dX4_fold_1 : decode cX4_fold 1 = .ok (.lconst 0, 1) := by decide +kernel
theorem dX4_fold_2 : decode cX4_fold 2 = .ok (.lcmp, 1) := by decide +kernel
theorem dX4_fold_3 : decode cX4_fold 3 = .ok (.ifCond .lt 11, 3) := by decide +kernel
theorem dX4_fold_6 : decode cX4_fold 6 = .ok (.ldc2_w 50, 3) := by decide +kernel
theorem dX4_fold_9 : decode cX4_fold 9 = .ok (.lload_n 0, 1) := by decide +kernel
theorem dX4_fold_10 : decode cX4_fold 10 = .ok (.lmul, 1) := by decide +kernel
theorem dX4_fold_11 : decode cX4_fold 11 = .ok (.goto 10, 3) := by decide +kernel
theorem dX4_fold_14 : decode cX4_fold 14 = .ok (.ldc2_w 52, 3) := by decide +kernel
theorem dX4_fold_17 : decode cX4_fold 17 = .ok (.lload_n 0, 1) := by decide +kernel
theorem dX4_fold_18 : decode cX4_fold 18 = .ok (.lmul, 1) := by decide +kernel
theorem dX4_fold_19 : decode cX4_fold 19 = .ok (.lconst 1, 1) := by decide +kernel
theorem dX4_fold_20 : decode cX4_fold 20 = .ok (.lsub, 1) := by decide +kernel
theorem dX4_fold_21 : decode cX4_fold 21 = .ok (.lreturn, 1) := by decide +kernel
theorem dX4_unfold_0 : decode cX4_unfold 0 = .ok (.lload_n 0, 1) := by decide +kernel
theorem dX4_unfold_1 : decode cX4_unfold 1 = .ok (.lconst 1, 1) := by decide +kernel
theorem dX4_unfold_2 : decode cX4_unfold 2 = .ok (.land, 1) := by decide +kernel
theorem dX4_unfold_3 : decode cX4_unfold 3 = .ok (.lconst 0, 1) := by decide +kernel
theorem dX4_unfold_4 : decode cX4_unfold 4 = .ok (.lcmp, 1) := by decide +kernel
theorem dX4_unfold_5 : decode cX4_unfold 5 = .ok (.ifCond .ne 9, 3) := by decide +kernel
theorem dX4_unfold_8 : decode cX4_unfold 8 = .ok (.lload_n 0, 1) := by decide +kernel
theorem dX4_unfold_9 : decode cX4_unfold 9 = .ok (.iconst 1, 1) := by decide +kernel
theorem dX4_unfold_10 : decode cX4_unfold 10 = .ok (.lushr, 1) := by decide +kernel
theorem dX4_unfold_11 : decode cX4_unfold 11 = .ok (.goto 9, 3) := by decide +kernel
theorem dX4_unfold_14 : decode cX4_unfold 14 = .ok (.lload_n 0, 1) := by decide +kernel
theorem dX4_unfold_15 : decode cX4_unfold 15 = .ok (.iconst 1, 1) := by decide +kernel
theorem dX4_unfold_16 : decode cX4_unfold 16 = .ok (.lushr, 1) := by decide +kernel
theorem dX4_unfold_17 : decode cX4_unfold 17 = .ok (.lneg, 1) := by decide +kernel
theorem dX4_unfold_18 : decode cX4_unfold 18 = .ok (.lconst 1, 1) := by decide +kernel
theorem dX4_unfold_19 : decode cX4_unfold 19 = .ok (.lsub, 1) := by decide +kernel
theorem dX4_unfold_20 : decode cX4_unfold 20 = .ok (.lreturn, 1) := by decide +kernel
theorem dX4_sum_0 : decode cX4_sum 0 = .ok (.iconst (-1), 1) := by decide +kernel
theorem dX4_sum_1 : decode cX4_sum 1 = .ok (.istore_n 3, 1) := by decide +kernel
theorem dX4_sum_2 : decode cX4_sum 2 = .ok (.iload_n 1, 1) := by decide +kernel
theorem dX4_sum_3 : decode cX4_sum 3 = .ok (.istore 4, 2) := by decide +kernel
theorem dX4_sum_5 : decode cX4_sum 5 = .ok (.iload 4, 2) := by decide +kernel
theorem dX4_sum_7 : decode cX4_sum 7 = .ok (.iload_n 2, 1) := by decide +kernel
theorem dX4_sum_8 : decode cX4_sum 8 = .ok (.if_icmp .ge 58, 3) := by decide +kernel
theorem dX4_sum_11 : decode cX4_sum 11 = .ok (.iconst 0, 1) := by decide +kernel
theorem dX4_sum_12 : decode cX4_sum 12 = .ok (.istore 5, 2) := by decide +kernel
theorem dX4_sum_14 : decode cX4_sum 14 = .ok (.iload 5, 2) := by decide +kernel
theorem dX4_sum_16 : decode cX4_sum 16 = .ok (.bipush 8, 2) := by decide +kernel
theorem dX4_sum_18 : decode cX4_sum 18 = .ok (.if_icmp .ge 42, 3) := by decide +kernel
theorem dX4_sum_21 : decode cX4_sum 21 = .ok (.aload_n 0, 1) := by decide +kernel
theorem dX4_sum_22 : decode cX4_sum 22 = .ok (.getfield 17, 3) := by decide +kernel
theorem dX4_sum_25 : decode cX4_sum 25 = .ok (.iload 4, 2) := by decide +kernel
theorem dX4_sum_27 : decode cX4_sum 27 = .ok (.baload, 1) := by decide +kernel
theorem dX4_sum_28 : decode cX4_sum 28 = .ok (.iload 5, 2) := by decide +kernel
theorem dX4_sum_30 : decode cX4_sum 30 = .ok (.ishr, 1) := by decide +kernel
theorem dX4_sum_31 : decode cX4_sum 31 = .ok (.iload_n 3, 1) := by decide +kernel
theorem dX4_sum_32 : decode cX4_sum 32 = .ok (.ixor, 1) := by decide +kernel
theorem dX4_sum_33 : decode cX4_sum 33 = .ok (.iconst 1, 1) := by decide +kernel
theorem dX4_sum_34 : decode cX4_sum 34 = .ok (.iand, 1) := by decide +kernel
theorem dX4_sum_35 : decode cX4_sum 35 = .ok (.istore 6, 2) := by decide +kernel
theorem dX4_sum_37 : decode cX4_sum 37 = .ok (.iload_n 3, 1) := by decide +kernel
theorem dX4_sum_38 : decode cX4_sum 38 = .ok (.iconst 1, 1) := by decide +kernel
theorem dX4_sum_39 : decode cX4_sum 39 = .ok (.iushr, 1) := by decide +kernel
theorem dX4_sum_40 : decode cX4_sum 40 = .ok (.iload 6, 2) := by decide +kernel
theorem dX4_sum_42 : decode cX4_sum 42 = .ok (.iconst 1, 1) := by decide +kernel
theorem dX4_sum_43 : decode cX4_sum 43 = .ok (.if_icmp .ne 8, 3) := by decide +kernel
theorem dX4_sum_46 : decode cX4_sum 46 = .ok (.ldc 54, 2) := by decide +kernel
theorem dX4_sum_48 : decode cX4_sum 48 = .ok (.goto 4, 3) := by decide +kernel
theorem dX4_sum_51 : decode cX4_sum 51 = .ok (.iconst 0, 1) := by decide +kernel
theorem dX4_sum_52 : decode cX4_sum 52 = .ok (.ixor, 1) := by decide +kernel
theorem dX4_sum_53 : decode cX4_sum 53 = .ok (.istore_n 3, 1) := by decide +kernel
theorem dX4_sum_54 : decode cX4_sum 54 = .ok (.iinc 5 1, 3) := by decide +kernel
theorem dX4_sum_57 : decode cX4_sum 57 = .ok (.goto (-43), 3) := by decide +kernel
theorem dX4_sum_60 : decode cX4_sum 60 = .ok (.iinc 4 1, 3) := by decide +kernel
theorem dX4_sum_63 : decode cX4_sum 63 = .ok (.goto (-58), 3) := by decide +kernel
theorem dX4_sum_66 : decode cX4_sum 66 = .ok (.iload_n 3, 1) := by decide +kernel
theorem dX4_sum_67 : decode cX4_sum 67 = .ok (.iconst (-1), 1) := by decide +kernel
theorem dX4_sum_68 : decode cX4_sum 68 = .ok (.ixor, 1) := by decide +kernel
theorem dX4_sum_69 : decode cX4_sum 69 = .ok (.ireturn, 1) := by decide +kernel
theorem dX4_seal_0 : decode cX4_seal 0 = .ok (.aload_n 0, 1) := by decide +kernel
theorem dX4_seal_1 : decode cX4_seal 1 = .ok (.iload_n 1, 1) := by decide +kernel
theorem dX4_seal_2 : decode cX4_seal 2 = .ok (.aload_n 0, 1) := by decide +kernel
theorem dX4_seal_3 : decode cX4_seal 3 = .ok (.getfield 45, 3) := by decide +kernel
theorem dX4_seal_6 : decode cX4_seal 6 = .ok (.invokevirtual 55, 3) := by decide +kernel
theorem dX4_seal_9 : decode cX4_seal 9 = .ok (.istore_n 2, 1) := by decide +kernel
theorem dX4_seal_10 : decode cX4_seal 10 = .ok (.iconst 0, 1) := by decide +kernel
theorem dX4_seal_11 : decode cX4_seal 11 = .ok (.istore_n 3, 1) := by decide +kernel
theorem dX4_seal_12 : decode cX4_seal 12 = .ok (.iload_n 3, 1) := by decide +kernel
theorem dX4_seal_13 : decode cX4_seal 13 = .ok (.iconst 4, 1) := by decide +kernel
theorem dX4_seal_14 : decode cX4_seal 14 = .ok (.if_icmp .ge 32, 3) := by decide +kernel
theorem dX4_seal_17 : decode cX4_seal 17 = .ok (.aload_n 0, 1) := by decide +kernel
theorem dX4_seal_18 : decode cX4_seal 18 = .ok (.getfield 17, 3) := by decide +kernel
theorem dX4_seal_21 : decode cX4_seal 21 = .ok (.aload_n 0, 1) := by decide +kernel
theorem dX4_seal_22 : decode cX4_seal 22 = .ok (.dup, 1) := by decide +kernel
theorem dX4_seal_23 : decode cX4_seal 23 = .ok (.getfield 45, 3) := by decide +kernel
theorem dX4_seal_26 : decode cX4_seal 26 = .ok (.dup_x1, 1) := by decide +kernel
theorem dX4_seal_27 : decode cX4_seal 27 = .ok (.iconst 1, 1) := by decide +kernel
theorem dX4_seal_28 : decode cX4_seal 28 = .ok (.iadd, 1) := by decide +kernel
theorem dX4_seal_29 : decode cX4_seal 29 = .ok (.putfield 45, 3) := by decide +kernel
theorem dX4_seal_32 : decode cX4_seal 32 = .ok (.iload_n 2, 1) := by decide +kernel
theorem dX4_seal_33 : decode cX4_seal 33 = .ok (.bipush 8, 2) := by decide +kernel
theorem dX4_seal_35 : decode cX4_seal 35 = .ok (.iload_n 3, 1) := by decide +kernel
theorem dX4_seal_36 : decode cX4_seal 36 = .ok (.imul, 1) := by decide +kernel
theorem dX4_seal_37 : decode cX4_seal 37 = .ok (.ishr, 1) := by decide +kernel
theorem dX4_seal_38 : decode cX4_seal 38 = .ok (.i2b, 1) := by decide +kernel
theorem dX4_seal_39 : decode cX4_seal 39 = .ok (.bastore, 1) := by decide +kernel
theorem dX4_seal_40 : decode cX4_seal 40 = .ok (.iinc 3 1, 3) := by decide +kernel
theorem dX4_seal_43 : decode cX4_seal 43 = .ok (.goto (-31), 3) := by decide +kernel
theorem dX4_seal_46 : decode cX4_seal 46 = .ok (.return_, 1) := by decide +kernel
theorem dX4_isSealed_0 : decode cX4_isSealed 0 = .ok (.aload_n 0, 1) := by decide +kernel
theorem dX4_isSealed_1 : decode cX4_isSealed 1 = .ok (.iload_n 1, 1) := by decide +kernel
theorem dX4_isSealed_2 : decode cX4_isSealed 2 = .ok (.iload_n 2, 1) := by decide +kernel
theorem dX4_isSealed_3 : decode cX4_isSealed 3 = .ok (.invokevirtual 55, 3) := by decide +kernel
theorem dX4_isSealed_6 : decode cX4_isSealed 6 = .ok (.istore_n 3, 1) := by decide +kernel
theorem dX4_isSealed_7 : decode cX4_isSealed 7 = .ok (.iconst 0, 1) := by decide +kernel
theorem dX4_isSealed_8 : decode cX4_isSealed 8 = .ok (.istore 4, 2) := by decide +kernel
theorem dX4_isSealed_10 : decode cX4_isSealed 10 = .ok (.iload 4, 2) := by decide +kernel
theorem dX4_isSealed_12 : decode cX4_isSealed 12 = .ok (.iconst 4, 1) := by decide +kernel
theorem dX4_isSealed_13 : decode cX4_isSealed 13 = .ok (.if_icmp .ge 31, 3) := by decide +kernel
theorem dX4_isSealed_16 : decode cX4_isSealed 16 = .ok (.aload_n 0, 1) := by decide +kernel
theorem dX4_isSealed_17 : decode cX4_isSealed 17 = .ok (.getfield 17, 3) := by decide +kernel
theorem dX4_isSealed_20 : decode cX4_isSealed 20 = .ok (.iload_n 2, 1) := by decide +kernel
theorem dX4_isSealed_21 : decode cX4_isSealed 21 = .ok (.iload 4, 2) := by decide +kernel
theorem dX4_isSealed_23 : decode cX4_isSealed 23 = .ok (.iadd, 1) := by decide +kernel
theorem dX4_isSealed_24 : decode cX4_isSealed 24 = .ok (.baload, 1) := by decide +kernel
theorem dX4_isSealed_25 : decode cX4_isSealed 25 = .ok (.iload_n 3, 1) := by decide +kernel
theorem dX4_isSealed_26 : decode cX4_isSealed 26 = .ok (.bipush 8, 2) := by decide +kernel
theorem dX4_isSealed_28 : decode cX4_isSealed 28 = .ok (.iload 4, 2) := by decide +kernel
theorem dX4_isSealed_30 : decode cX4_isSealed 30 = .ok (.imul, 1) := by decide +kernel
theorem dX4_isSealed_31 : decode cX4_isSealed 31 = .ok (.ishr, 1) := by decide +kernel
theorem dX4_isSealed_32 : decode cX4_isSealed 32 = .ok (.i2b, 1) := by decide +kernel
theorem dX4_isSealed_33 : decode cX4_isSealed 33 = .ok (.if_icmp .eq 5, 3) := by decide +kernel
theorem dX4_isSealed_36 : decode cX4_isSealed 36 = .ok (.iconst 0, 1) := by decide +kernel
theorem dX4_isSealed_37 : decode cX4_isSealed 37 = .ok (.ireturn, 1) := by decide +kernel
theorem dX4_isSealed_38 : decode cX4_isSealed 38 = .ok (.iinc 4 1, 3) := by decide +kernel
theorem dX4_isSealed_41 : decode cX4_isSealed 41 = .ok (.goto (-31), 3) := by decide +kernel
theorem dX4_isSealed_44 : decode cX4_isSealed 44 = .ok (.iconst 1, 1) := by decide +kernel
theorem dX4_isSealed_45 : decode cX4_isSealed 45 = .ok (.ireturn, 1) := by decide +kernel
theorem dX4_build_0 : decode cX4_build 0 = .ok (.iconst 0, 1) := by decide +kernel
theorem dX4_build_1 : decode cX4_build 1 = .ok (.istore_n 1, 1) := by decide +kernel
theorem dX4_build_2 : decode cX4_build 2 = .ok (.aload_n 0, 1) := by decide +kernel
theorem dX4_build_3 : decode cX4_build 3 = .ok (.iconst 0, 1) := by decide +kernel
theorem dX4_build_4 : decode cX4_build 4 = .ok (.putfield 45, 3) := by decide +kernel
theorem dX4_build_7 : decode cX4_build 7 = .ok (.iconst 0, 1) := by decide +kernel
theorem dX4_build_8 : decode cX4_build 8 = .ok (.istore_n 2, 1) := by decide +kernel
theorem dX4_build_9 : decode cX4_build 9 = .ok (.iload_n 2, 1) := by decide +kernel
theorem dX4_build_10 : decode cX4_build 10 = .ok (.aload_n 0, 1) := by decide +kernel
theorem dX4_build_11 : decode cX4_build 11 = .ok (.getfield 59, 3) := by decide +kernel
theorem dX4_build_14 : decode cX4_build 14 = .ok (.if_icmp .ge 132, 3) := by decide +kernel
theorem dX4_build_17 : decode cX4_build 17 = .ok (.aload_n 0, 1) := by decide +kernel
theorem dX4_build_18 : decode cX4_build 18 = .ok (.getfield 45, 3) := by decide +kernel
theorem dX4_build_21 : decode cX4_build 21 = .ok (.istore_n 3, 1) := by decide +kernel
theorem dX4_build_22 : decode cX4_build 22 = .ok (.iload_n 2, 1) := by decide +kernel
theorem dX4_build_23 : decode cX4_build 23 = .ok (.istore 4, 2) := by decide +kernel
