/-! decode rows -/
theorem dX4_isBlock_80 : decode cX4_isBlock 80 = .ok (.getfield 84, 3) := by decide +kernel
theorem dX4_isBlock_83 : decode cX4_isBlock 83 = .ok (.ifCond .ne 82, 3) := by decide +kernel
theorem dX4_isBlock_86 : decode cX4_isBlock 86 = .ok (.aload_n 0, 1) := by decide +kernel
theorem dX4_isBlock_87 : decode cX4_isBlock 87 = .ok (.invokevirtual 87, 3) := by decide +kernel
theorem dX4_isBlock_90 : decode cX4_isBlock 90 = .ok (.lstore_n 2, 1) := by decide +kernel
theorem dX4_isBlock_91 : decode cX4_isBlock 91 = .ok (.aload_n 0, 1) := by decide +kernel
theorem dX4_isBlock_92 : decode cX4_isBlock 92 = .ok (.invokevirtual 87, 3) := by decide +kernel
theorem dX4_isBlock_95 : decode cX4_isBlock 95 = .ok (.lstore 4, 2) := by decide +kernel
theorem dX4_isBlock_97 : decode cX4_isBlock 97 = .ok (.aload_n 0, 1) := by decide +kernel
theorem dX4_isBlock_98 : decode cX4_isBlock 98 = .ok (.getfield 30, 3) := by decide +kernel
theorem dX4_isBlock_101 : decode cX4_isBlock 101 = .ok (.aload_n 0, 1) := by decide +kernel
theorem dX4_isBlock_102 : decode cX4_isBlock 102 = .ok (.getfield 110, 3) := by decide +kernel
theorem dX4_isBlock_105 : decode cX4_isBlock 105 = .ok (.aload_n 0, 1) := by decide +kernel
theorem dX4_isBlock_106 : decode cX4_isBlock 106 = .ok (.getfield 110, 3) := by decide +kernel
theorem dX4_isBlock_109 : decode cX4_isBlock 109 = .ok (.ifCond .ne 11, 3) := by decide +kernel
theorem dX4_isBlock_112 : decode cX4_isBlock 112 = .ok (.lload_n 2, 1) := by decide +kernel
theorem dX4_isBlock_113 : decode cX4_isBlock 113 = .ok (.invokestatic 107, 3) := by decide +kernel
theorem dX4_isBlock_116 : decode cX4_isBlock 116 = .ok (.l2i, 1) := by decide +kernel
theorem dX4_isBlock_117 : decode cX4_isBlock 117 = .ok (.goto 20, 3) := by decide +kernel
theorem dX4_isBlock_120 : decode cX4_isBlock 120 = .ok (.aload_n 0, 1) := by decide +kernel
theorem dX4_isBlock_121 : decode cX4_isBlock 121 = .ok (.getfield 30, 3) := by decide +kernel
theorem dX4_isBlock_124 : decode cX4_isBlock 124 = .ok (.aload_n 0, 1) := by decide +kernel
theorem dX4_isBlock_125 : decode cX4_isBlock 125 = .ok (.getfield 110, 3) := by decide +kernel
theorem dX4_isBlock_128 : decode cX4_isBlock 128 = .ok (.iconst 1, 1) := by decide +kernel
theorem dX4_isBlock_129 : decode cX4_isBlock 129 = .ok (.isub, 1) := by decide +kernel
theorem dX4_isBlock_130 : decode cX4_isBlock 130 = .ok (.iaload, 1) := by decide +kernel
theorem dX4_isBlock_131 : decode cX4_isBlock 131 = .ok (.i2l, 1) := by decide +kernel
theorem dX4_isBlock_132 : decode cX4_isBlock 132 = .ok (.lload_n 2, 1) := by decide +kernel
theorem dX4_isBlock_133 : decode cX4_isBlock 133 = .ok (.ladd, 1) := by decide +kernel
theorem dX4_isBlock_134 : decode cX4_isBlock 134 = .ok (.lconst 1, 1) := by decide +kernel
theorem dX4_isBlock_135 : decode cX4_isBlock 135 = .ok (.ladd, 1) := by decide +kernel
theorem dX4_isBlock_136 : decode cX4_isBlock 136 = .ok (.l2i, 1) := by decide +kernel
theorem dX4_isBlock_137 : decode cX4_isBlock 137 = .ok (.iastore, 1) := by decide +kernel
theorem dX4_isBlock_138 : decode cX4_isBlock 138 = .ok (.aload_n 0, 1) := by decide +kernel
theorem dX4_isBlock_139 : decode cX4_isBlock 139 = .ok (.getfield 33, 3) := by decide +kernel
theorem dX4_isBlock_142 : decode cX4_isBlock 142 = .ok (.aload_n 0, 1) := by decide +kernel
theorem dX4_isBlock_143 : decode cX4_isBlock 143 = .ok (.getfield 110, 3) := by decide +kernel
theorem dX4_isBlock_146 : decode cX4_isBlock 146 = .ok (.lload 4, 2) := by decide +kernel
theorem dX4_isBlock_148 : decode cX4_isBlock 148 = .ok (.invokestatic 107, 3) := by decide +kernel
theorem dX4_isBlock_151 : decode cX4_isBlock 151 = .ok (.lastore, 1) := by decide +kernel
theorem dX4_isBlock_152 : decode cX4_isBlock 152 = .ok (.aload_n 0, 1) := by decide +kernel
theorem dX4_isBlock_153 : decode cX4_isBlock 153 = .ok (.dup, 1) := by decide +kernel
theorem dX4_isBlock_154 : decode cX4_isBlock 154 = .ok (.getfield 110, 3) := by decide +kernel
theorem dX4_isBlock_157 : decode cX4_isBlock 157 = .ok (.iconst 1, 1) := by decide +kernel
theorem dX4_isBlock_158 : decode cX4_isBlock 158 = .ok (.iadd, 1) := by decide +kernel
theorem dX4_isBlock_159 : decode cX4_isBlock 159 = .ok (.putfield 110, 3) := by decide +kernel
theorem dX4_isBlock_162 : decode cX4_isBlock 162 = .ok (.goto (-94), 3) := by decide +kernel
theorem dX4_isBlock_165 : decode cX4_isBlock 165 = .ok (.aload_n 0, 1) := by decide +kernel
theorem dX4_isBlock_166 : decode cX4_isBlock 166 = .ok (.getfield 84, 3) := by decide +kernel
theorem dX4_isBlock_169 : decode cX4_isBlock 169 = .ok (.ifCond .ne 7, 3) := by decide +kernel
theorem dX4_isBlock_172 : decode cX4_isBlock 172 = .ok (.iconst 1, 1) := by decide +kernel
theorem dX4_isBlock_173 : decode cX4_isBlock 173 = .ok (.goto 4, 3) := by decide +kernel
theorem dX4_isBlock_176 : decode cX4_isBlock 176 = .ok (.iconst 0, 1) := by decide +kernel
theorem dX4_isBlock_177 : decode cX4_isBlock 177 = .ok (.ireturn, 1) := by decide +kernel
theorem dX4_add_0 : decode cX4_add 0 = .ok (.aload_n 0, 1) := by decide +kernel
theorem dX4_add_1 : decode cX4_add 1 = .ok (.aload_n 0, 1) := by decide +kernel
theorem dX4_add_2 : decode cX4_add 2 = .ok (.getfield 59, 3) := by decide +kernel
theorem dX4_add_5 : decode cX4_add 5 = .ok (.sipush 300, 3) := by decide +kernel
theorem dX4_add_8 : decode cX4_add 8 = .ok (.if_icmp .ne 7, 3) := by decide +kernel
theorem dX4_add_11 : decode cX4_add 11 = .ok (.iconst 2, 1) := by decide +kernel
theorem dX4_add_12 : decode cX4_add 12 = .ok (.goto 30, 3) := by decide +kernel
theorem dX4_add_15 : decode cX4_add 15 = .ok (.aload_n 0, 1) := by decide +kernel
theorem dX4_add_16 : decode cX4_add 16 = .ok (.getfield 59, 3) := by decide +kernel
theorem dX4_add_19 : decode cX4_add 19 = .ok (.ifCond .le 22, 3) := by decide +kernel
theorem dX4_add_22 : decode cX4_add 22 = .ok (.iload_n 1, 1) := by decide +kernel
theorem dX4_add_23 : decode cX4_add 23 = .ok (.aload_n 0, 1) := by decide +kernel
theorem dX4_add_24 : decode cX4_add 24 = .ok (.getfield 9, 3) := by decide +kernel
theorem dX4_add_27 : decode cX4_add 27 = .ok (.aload_n 0, 1) := by decide +kernel
theorem dX4_add_28 : decode cX4_add 28 = .ok (.getfield 59, 3) := by decide +kernel
theorem dX4_add_31 : decode cX4_add 31 = .ok (.iconst 1, 1) := by decide +kernel
theorem dX4_add_32 : decode cX4_add 32 = .ok (.isub, 1) := by decide +kernel
theorem dX4_add_33 : decode cX4_add 33 = .ok (.iaload, 1) := by decide +kernel
theorem dX4_add_34 : decode cX4_add 34 = .ok (.if_icmp .gt 7, 3) := by decide +kernel
theorem dX4_add_37 : decode cX4_add 37 = .ok (.iconst 1, 1) := by decide +kernel
theorem dX4_add_38 : decode cX4_add 38 = .ok (.goto 4, 3) := by decide +kernel
theorem dX4_add_41 : decode cX4_add 41 = .ok (.iconst 0, 1) := by decide +kernel
theorem dX4_add_42 : decode cX4_add 42 = .ok (.putfield 39, 3) := by decide +kernel
theorem dX4_add_45 : decode cX4_add 45 = .ok (.aload_n 0, 1) := by decide +kernel
theorem dX4_add_46 : decode cX4_add 46 = .ok (.getfield 39, 3) := by decide +kernel
theorem dX4_add_49 : decode cX4_add 49 = .ok (.ifCond .le 5, 3) := by decide +kernel
theorem dX4_add_52 : decode cX4_add 52 = .ok (.iconst 0, 1) := by decide +kernel
theorem dX4_add_53 : decode cX4_add 53 = .ok (.ireturn, 1) := by decide +kernel
theorem dX4_add_54 : decode cX4_add 54 = .ok (.aload_n 0, 1) := by decide +kernel
theorem dX4_add_55 : decode cX4_add 55 = .ok (.getfield 9, 3) := by decide +kernel
theorem dX4_add_58 : decode cX4_add 58 = .ok (.aload_n 0, 1) := by decide +kernel
theorem dX4_add_59 : decode cX4_add 59 = .ok (.getfield 59, 3) := by decide +kernel
theorem dX4_add_62 : decode cX4_add 62 = .ok (.iload_n 1, 1) := by decide +kernel
theorem dX4_add_63 : decode cX4_add 63 = .ok (.iastore, 1) := by decide +kernel
theorem dX4_add_64 : decode cX4_add 64 = .ok (.aload_n 0, 1) := by decide +kernel
theorem dX4_add_65 : decode cX4_add 65 = .ok (.getfield 13, 3) := by decide +kernel
theorem dX4_add_68 : decode cX4_add 68 = .ok (.aload_n 0, 1) := by decide +kernel
theorem dX4_add_69 : decode cX4_add 69 = .ok (.getfield 59, 3) := by decide +kernel
theorem dX4_add_72 : decode cX4_add 72 = .ok (.lload_n 2, 1) := by decide +kernel
theorem dX4_add_73 : decode cX4_add 73 = .ok (.lastore, 1) := by decide +kernel
theorem dX4_add_74 : decode cX4_add 74 = .ok (.aload_n 0, 1) := by decide +kernel
theorem dX4_add_75 : decode cX4_add 75 = .ok (.dup, 1) := by decide +kernel
theorem dX4_add_76 : decode cX4_add 76 = .ok (.getfield 59, 3) := by decide +kernel
theorem dX4_add_79 : decode cX4_add 79 = .ok (.iconst 1, 1) := by decide +kernel
theorem dX4_add_80 : decode cX4_add 80 = .ok (.iadd, 1) := by decide +kernel
theorem dX4_add_81 : decode cX4_add 81 = .ok (.putfield 59, 3) := by decide +kernel
theorem dX4_add_84 : decode cX4_add 84 = .ok (.aload_n 0, 1) := by decide +kernel
theorem dX4_add_85 : decode cX4_add 85 = .ok (.getfield 59, 3) := by decide +kernel
theorem dX4_add_88 : decode cX4_add 88 = .ok (.ireturn, 1) := by decide +kernel
theorem dX4_write_0 : decode cX4_write 0 = .ok (.aload_n 0, 1) := by decide +kernel
theorem dX4_write_1 : decode cX4_write 1 = .ok (.iconst 0, 1) := by decide +kernel
theorem dX4_write_2 : decode cX4_write 2 = .ok (.putfield 39, 3) := by decide +kernel
theorem dX4_write_5 : decode cX4_write 5 = .ok (.aload_n 0, 1) := by decide +kernel
theorem dX4_write_6 : decode cX4_write 6 = .ok (.invokevirtual 36, 3) := by decide +kernel
theorem dX4_write_9 : decode cX4_write 9 = .ok (.aload_n 0, 1) := by decide +kernel
theorem dX4_write_10 : decode cX4_write 10 = .ok (.getfield 45, 3) := by decide +kernel
theorem dX4_write_13 : decode cX4_write 13 = .ok (.ireturn, 1) := by decide +kernel
theorem dX4_isByte_0 : decode cX4_isByte 0 = .ok (.aload_n 0, 1) := by decide +kernel
theorem dX4_isByte_1 : decode cX4_isByte 1 = .ok (.iload_n 1, 1) := by decide +kernel
theorem dX4_isByte_2 : decode cX4_isByte 2 = .ok (.ifCond .lt 11, 3) := by decide +kernel
theorem dX4_isByte_5 : decode cX4_isByte 5 = .ok (.iload_n 1, 1) := by decide +kernel
theorem dX4_isByte_6 : decode cX4_isByte 6 = .ok (.aload_n 0, 1) := by decide +kernel
theorem dX4_isByte_7 : decode cX4_isByte 7 = .ok (.getfield 45, 3) := by decide +kernel
theorem dX4_isByte_10 : decode cX4_isByte 10 = .ok (.if_icmp .lt 7, 3) := by decide +kernel
theorem dX4_isByte_13 : decode cX4_isByte 13 = .ok (.iconst 1, 1) := by decide +kernel
theorem dX4_isByte_14 : decode cX4_isByte 14 = .ok (.goto 4, 3) := by decide +kernel
theorem dX4_isByte_17 : decode cX4_isByte 17 = .ok (.iconst 0, 1) := by decide +kernel
theorem dX4_isByte_18 : decode cX4_isByte 18 = .ok (.putfield 39, 3) := by decide +kernel
theorem dX4_isByte_21 : decode cX4_isByte 21 = .ok (.aload_n 0, 1) := by decide +kernel
theorem dX4_isByte_22 : decode cX4_isByte 22 = .ok (.getfield 39, 3) := by decide +kernel
theorem dX4_isByte_25 : decode cX4_isByte 25 = .ok (.ifCond .ne 7, 3) := by decide +kernel
theorem dX4_isByte_28 : decode cX4_isByte 28 = .ok (.iconst 1, 1) := by decide +kernel
theorem dX4_isByte_29 : decode cX4_isByte 29 = .ok (.goto 4, 3) := by decide +kernel
theorem dX4_isByte_32 : decode cX4_isByte 32 = .ok (.iconst 0, 1) := by decide +kernel
theorem dX4_isByte_33 : decode cX4_isByte 33 = .ok (.ireturn, 1) := by decide +kernel
theorem dX4_at_0 : decode cX4_at 0 = .ok (.aload_n 0, 1) := by decide +kernel
theorem dX4_at_1 : decode cX4_at 1 = .ok (.iload_n 1, 1) := by decide +kernel
theorem dX4_at_2 : decode cX4_at 2 = .ok (.invokevirtual 113, 3) := by decide +kernel
theorem dX4_at_5 : decode cX4_at 5 = .ok (.ifCond .eq 16, 3) := by decide +kernel
theorem dX4_at_8 : decode cX4_at 8 = .ok (.aload_n 0, 1) := by decide +kernel
theorem dX4_at_9 : decode cX4_at 9 = .ok (.getfield 17, 3) := by decide +kernel
theorem dX4_at_12 : decode cX4_at 12 = .ok (.iload_n 1, 1) := by decide +kernel
theorem dX4_at_13 : decode cX4_at 13 = .ok (.baload, 1) := by decide +kernel
theorem dX4_at_14 : decode cX4_at 14 = .ok (.sipush 255, 3) := by decide +kernel
theorem dX4_at_17 : decode cX4_at 17 = .ok (.iand, 1) := by decide +kernel
theorem dX4_at_18 : decode cX4_at 18 = .ok (.goto 4, 3) := by decide +kernel
theorem dX4_at_21 : decode cX4_at 21 = .ok (.iconst 0, 1) := by decide +kernel
theorem dX4_at_22 : decode cX4_at 22 = .ok (.ireturn, 1) := by decide +kernel
theorem dX4_damage_0 : decode cX4_damage 0 = .ok (.aload_n 0, 1) := by decide +kernel
theorem dX4_damage_1 : decode cX4_damage 1 = .ok (.iload_n 1, 1) := by decide +kernel
theorem dX4_damage_2 : decode cX4_damage 2 = .ok (.invokevirtual 113, 3) := by decide +kernel
theorem dX4_damage_5 : decode cX4_damage 5 = .ok (.ifCond .ne 5, 3) := by decide +kernel
theorem dX4_damage_8 : decode cX4_damage 8 = .ok (.iconst 0, 1) := by decide +kernel
theorem dX4_damage_9 : decode cX4_damage 9 = .ok (.ireturn, 1) := by decide +kernel
theorem dX4_damage_10 : decode cX4_damage 10 = .ok (.aload_n 0, 1) := by decide +kernel
theorem dX4_damage_11 : decode cX4_damage 11 = .ok (.getfield 17, 3) := by decide +kernel
theorem dX4_damage_14 : decode cX4_damage 14 = .ok (.iload_n 1, 1) := by decide +kernel
theorem dX4_damage_15 : decode cX4_damage 15 = .ok (.baload, 1) := by decide +kernel
theorem dX4_damage_16 : decode cX4_damage 16 = .ok (.sipush 255, 3) := by decide +kernel
theorem dX4_damage_19 : decode cX4_damage 19 = .ok (.iand, 1) := by decide +kernel
theorem dX4_damage_20 : decode cX4_damage 20 = .ok (.istore_n 3, 1) := by decide +kernel
theorem dX4_damage_21 : decode cX4_damage 21 = .ok (.aload_n 0, 1) := by decide +kernel
theorem dX4_damage_22 : decode cX4_damage 22 = .ok (.getfield 17, 3) := by decide +kernel
theorem dX4_damage_25 : decode cX4_damage 25 = .ok (.iload_n 1, 1) := by decide +kernel
theorem dX4_damage_26 : decode cX4_damage 26 = .ok (.iload_n 2, 1) := by decide +kernel
theorem dX4_damage_27 : decode cX4_damage 27 = .ok (.i2b, 1) := by decide +kernel
theorem dX4_damage_28 : decode cX4_damage 28 = .ok (.bastore, 1) := by decide +kernel
theorem dX4_damage_29 : decode cX4_damage 29 = .ok (.aload_n 0, 1) := by decide +kernel
theorem dX4_damage_30 : decode cX4_damage 30 = .ok (.iconst 0, 1) := by decide +kernel
theorem dX4_damage_31 : decode cX4_damage 31 = .ok (.putfield 74, 3) := by decide +kernel
theorem dX4_damage_34 : decode cX4_damage 34 = .ok (.iload_n 3, 1) := by decide +kernel
theorem dX4_damage_35 : decode cX4_damage 35 = .ok (.ireturn, 1) := by decide +kernel
theorem dX4_cut_0 : decode cX4_cut 0 = .ok (.aload_n 0, 1) := by decide +kernel
theorem dX4_cut_1 : decode cX4_cut 1 = .ok (.iload_n 1, 1) := by decide +kernel
theorem dX4_cut_2 : decode cX4_cut 2 = .ok (.ifCond .lt 11, 3) := by decide +kernel
theorem dX4_cut_5 : decode cX4_cut 5 = .ok (.iload_n 1, 1) := by decide +kernel
theorem dX4_cut_6 : decode cX4_cut 6 = .ok (.aload_n 0, 1) := by decide +kernel
theorem dX4_cut_7 : decode cX4_cut 7 = .ok (.getfield 45, 3) := by decide +kernel
theorem dX4_cut_10 : decode cX4_cut 10 = .ok (.if_icmp .le 7, 3) := by decide +kernel
theorem dX4_cut_13 : decode cX4_cut 13 = .ok (.iconst 1, 1) := by decide +kernel
theorem dX4_cut_14 : decode cX4_cut 14 = .ok (.goto 4, 3) := by decide +kernel
theorem dX4_cut_17 : decode cX4_cut 17 = .ok (.iconst 0, 1) := by decide +kernel
theorem dX4_cut_18 : decode cX4_cut 18 = .ok (.putfield 39, 3) := by decide +kernel
theorem dX4_cut_21 : decode cX4_cut 21 = .ok (.aload_n 0, 1) := by decide +kernel
theorem dX4_cut_22 : decode cX4_cut 22 = .ok (.getfield 39, 3) := by decide +kernel
theorem dX4_cut_25 : decode cX4_cut 25 = .ok (.ifCond .le 4, 3) := by decide +kernel
theorem dX4_cut_28 : decode cX4_cut 28 = .ok (.return_, 1) := by decide +kernel
theorem dX4_cut_29 : decode cX4_cut 29 = .ok (.aload_n 0, 1) := by decide +kernel
theorem dX4_cut_30 : decode cX4_cut 30 = .ok (.iload_n 1, 1) := by decide +kernel
theorem dX4_cut_31 : decode cX4_cut 31 = .ok (.putfield 45, 3) := by decide +kernel
theorem dX4_cut_34 : decode cX4_cut 34 = .ok (.aload_n 0, 1) := by decide +kernel
theorem dX4_cut_35 : decode cX4_cut 35 = .ok (.iconst 0, 1) := by decide +kernel
theorem dX4_cut_36 : decode cX4_cut 36 = .ok (.putfield 74, 3) := by decide +kernel
theorem dX4_cut_39 : decode cX4_cut 39 = .ok (.return_, 1) := by decide +kernel
theorem dX4_open_0 : decode cX4_open 0 = .ok (.aload_n 0, 1) := by decide +kernel
theorem dX4_open_1 : decode cX4_open 1 = .ok (.aload_n 0, 1) := by decide +kernel
theorem dX4_open_2 : decode cX4_open 2 = .ok (.invokevirtual 117, 3) := by decide +kernel
theorem dX4_open_5 : decode cX4_open 5 = .ok (.putfield 74, 3) := by decide +kernel
theorem dX4_open_8 : decode cX4_open 8 = .ok (.aload_n 0, 1) := by decide +kernel
theorem dX4_open_9 : decode cX4_open 9 = .ok (.aload_n 0, 1) := by decide +kernel
theorem dX4_open_10 : decode cX4_open 10 = .ok (.getfield 74, 3) := by decide +kernel
theorem dX4_open_13 : decode cX4_open 13 = .ok (.ifCond .eq 7, 3) := by decide +kernel
theorem dX4_open_16 : decode cX4_open 16 = .ok (.iconst 0, 1) := by decide +kernel
theorem dX4_open_17 : decode cX4_open 17 = .ok (.goto 4, 3) := by decide +kernel
theorem dX4_open_20 : decode cX4_open 20 = .ok (.iconst 1, 1) := by decide +kernel
theorem dX4_open_21 : decode cX4_open 21 = .ok (.putfield 39, 3) := by decide +kernel
theorem dX4_open_24 : decode cX4_open 24 = .ok (.aload_n 0, 1) := by decide +kernel
theorem dX4_open_25 : decode cX4_open 25 = .ok (.getfield 74, 3) := by decide +kernel
theorem dX4_open_28 : decode cX4_open 28 = .ok (.ifCond .eq 10, 3) := by decide +kernel
theorem dX4_open_31 : decode cX4_open 31 = .ok (.aload_n 0, 1) := by decide +kernel
theorem dX4_open_32 : decode cX4_open 32 = .ok (.getfield 102, 3) := by decide +kernel
theorem dX4_open_35 : decode cX4_open 35 = .ok (.goto 4, 3) := by decide +kernel
theorem dX4_open_38 : decode cX4_open 38 = .ok (.iconst 0, 1) := by decide +kernel
theorem dX4_open_39 : decode cX4_open 39 = .ok (.ireturn, 1) := by decide +kernel
theorem dX4_get_0 : decode cX4_get 0 = .ok (.aload_n 0, 1) := by decide +kernel
theorem dX4_get_1 : decode cX4_get 1 = .ok (.aload_n 0, 1) := by decide +kernel
theorem dX4_get_2 : decode cX4_get 2 = .ok (.getfield 74, 3) := by decide +kernel
theorem dX4_get_5 : decode cX4_get 5 = .ok (.ifCond .eq 7, 3) := by decide +kernel
theorem dX4_get_8 : decode cX4_get 8 = .ok (.iconst 0, 1) := by decide +kernel
theorem dX4_get_9 : decode cX4_get 9 = .ok (.goto 4, 3) := by decide +kernel
theorem dX4_get_12 : decode cX4_get 12 = .ok (.iconst 1, 1) := by decide +kernel
theorem dX4_get_13 : decode cX4_get 13 = .ok (.putfield 39, 3) := by decide +kernel
theorem dX4_get_16 : decode cX4_get 16 = .ok (.aload_n 0, 1) := by decide +kernel
theorem dX4_get_17 : decode cX4_get 17 = .ok (.getfield 39, 3) := by decide +kernel
theorem dX4_get_20 : decode cX4_get 20 = .ok (.ifCond .le 5, 3) := by decide +kernel
theorem dX4_get_23 : decode cX4_get 23 = .ok (.lconst 0, 1) := by decide +kernel
theorem dX4_get_24 : decode cX4_get 24 = .ok (.lreturn, 1) := by decide +kernel
theorem dX4_get_25 : decode cX4_get 25 = .ok (.aload_n 0, 1) := by decide +kernel
theorem dX4_get_26 : decode cX4_get 26 = .ok (.getfield 102, 3) := by decide +kernel
theorem dX4_get_29 : decode cX4_get 29 = .ok (.iconst 1, 1) := by decide +kernel
theorem dX4_get_30 : decode cX4_get 30 = .ok (.isub, 1) := by decide +kernel
theorem dX4_get_31 : decode cX4_get 31 = .ok (.istore_n 2, 1) := by decide +kernel
theorem dX4_get_32 : decode cX4_get 32 = .ok (.iload_n 2, 1) := by decide +kernel
theorem dX4_get_33 : decode cX4_get 33 = .ok (.ifCond .lt 19, 3) := by decide +kernel
theorem dX4_get_36 : decode cX4_get 36 = .ok (.aload_n 0, 1) := by decide +kernel
theorem dX4_get_37 : decode cX4_get 37 = .ok (.getfield 27, 3) := by decide +kernel
theorem dX4_get_40 : decode cX4_get 40 = .ok (.iload_n 2, 1) := by decide +kernel
theorem dX4_get_41 : decode cX4_get 41 = .ok (.iaload, 1) := by decide +kernel
theorem dX4_get_42 : decode cX4_get 42 = .ok (.iload_n 1, 1) := by decide +kernel
theorem dX4_get_43 : decode cX4_get 43 = .ok (.if_icmp .le 9, 3) := by decide +kernel
theorem dX4_get_46 : decode cX4_get 46 = .ok (.iinc 2 (-1), 3) := by decide +kernel
theorem dX4_get_49 : decode cX4_get 49 = .ok (.goto (-17), 3) := by decide +kernel
theorem dX4_get_52 : decode cX4_get 52 = .ok (.iload_n 2, 1) := by decide +kernel
theorem dX4_get_53 : decode cX4_get 53 = .ok (.ifCond .ge 10, 3) := by decide +kernel
theorem dX4_get_56 : decode cX4_get 56 = .ok (.aload_n 0, 1) := by decide +kernel
theorem dX4_get_57 : decode cX4_get 57 = .ok (.iconst 3, 1) := by decide +kernel
theorem dX4_get_58 : decode cX4_get 58 = .ok (.putfield 39, 3) := by decide +kernel
theorem dX4_get_61 : decode cX4_get 61 = .ok (.lconst 0, 1) := by decide +kernel
theorem dX4_get_62 : decode cX4_get 62 = .ok (.lreturn, 1) := by decide +kernel
theorem dX4_get_63 : decode cX4_get 63 = .ok (.aload_n 0, 1) := by decide +kernel
theorem dX4_get_64 : decode cX4_get 64 = .ok (.iload_n 2, 1) := by decide +kernel
theorem dX4_get_65 : decode cX4_get 65 = .ok (.invokevirtual 121, 3) := by decide +kernel
theorem dX4_get_68 : decode cX4_get 68 = .ok (.ifCond .ne 10, 3) := by decide +kernel
theorem dX4_get_71 : decode cX4_get 71 = .ok (.aload_n 0, 1) := by decide +kernel
theorem dX4_get_72 : decode cX4_get 72 = .ok (.iconst 2, 1) := by decide +kernel
theorem dX4_get_73 : decode cX4_get 73 = .ok (.putfield 39, 3) := by decide +kernel
theorem dX4_get_76 : decode cX4_get 76 = .ok (.lconst 0, 1) := by decide +kernel
theorem dX4_get_77 : decode cX4_get 77 = .ok (.lreturn, 1) := by decide +kernel
theorem dX4_get_78 : decode cX4_get 78 = .ok (.iconst 0, 1) := by decide +kernel
theorem dX4_get_79 : decode cX4_get 79 = .ok (.istore_n 3, 1) := by decide +kernel
theorem dX4_get_80 : decode cX4_get 80 = .ok (.iload_n 3, 1) := by decide +kernel
theorem dX4_get_81 : decode cX4_get 81 = .ok (.aload_n 0, 1) := by decide +kernel
theorem dX4_get_82 : decode cX4_get 82 = .ok (.getfield 110, 3) := by decide +kernel
theorem dX4_get_85 : decode cX4_get 85 = .ok (.if_icmp .ge 26, 3) := by decide +kernel
theorem dX4_get_88 : decode cX4_get 88 = .ok (.aload_n 0, 1) := by decide +kernel
theorem dX4_get_89 : decode cX4_get 89 = .ok (.getfield 30, 3) := by decide +kernel
theorem dX4_get_92 : decode cX4_get 92 = .ok (.iload_n 3, 1) := by decide +kernel
theorem dX4_get_93 : decode cX4_get 93 = .ok (.iaload, 1) := by decide +kernel
theorem dX4_get_94 : decode cX4_get 94 = .ok (.iload_n 1, 1) := by decide +kernel
theorem dX4_get_95 : decode cX4_get 95 = .ok (.if_icmp .ne 10, 3) := by decide +kernel
theorem dX4_get_98 : decode cX4_get 98 = .ok (.aload_n 0, 1) := by decide +kernel
theorem dX4_get_99 : decode cX4_get 99 = .ok (.getfield 33, 3) := by decide +kernel
theorem dX4_get_102 : decode cX4_get 102 = .ok (.iload_n 3, 1) := by decide +kernel
theorem dX4_get_103 : decode cX4_get 103 = .ok (.laload, 1) := by decide +kernel
theorem dX4_get_104 : decode cX4_get 104 = .ok (.lreturn, 1) := by decide +kernel
theorem dX4_get_105 : decode cX4_get 105 = .ok (.iinc 3 1, 3) := by decide +kernel
theorem dX4_get_108 : decode cX4_get 108 = .ok (.goto (-28), 3) := by decide +kernel
theorem dX4_get_111 : decode cX4_get 111 = .ok (.aload_n 0, 1) := by decide +kernel
theorem dX4_get_112 : decode cX4_get 112 = .ok (.iconst 3, 1) := by decide +kernel
theorem dX4_get_113 : decode cX4_get 113 = .ok (.putfield 39, 3) := by decide +kernel
theorem dX4_get_116 : decode cX4_get 116 = .ok (.lconst 0, 1) := by decide +kernel
theorem dX4_get_117 : decode cX4_get 117 = .ok (.lreturn, 1) := by decide +kernel
theorem dX4_isThere_0 : decode cX4_isThere 0 = .ok (.aload_n 0, 1) := by decide +kernel
theorem dX4_isThere_1 : decode cX4_isThere 1 = .ok (.aload_n 0, 1) := by decide +kernel
theorem dX4_isThere_2 : decode cX4_isThere 2 = .ok (.getfield 74, 3) := by decide +kernel
theorem dX4_isThere_5 : decode cX4_isThere 5 = .ok (.ifCond .ne 7, 3) := by decide +kernel
theorem dX4_isThere_8 : decode cX4_isThere 8 = .ok (.iconst 1, 1) := by decide +kernel
theorem dX4_isThere_9 : decode cX4_isThere 9 = .ok (.goto 32, 3) := by decide +kernel
theorem dX4_isThere_12 : decode cX4_isThere 12 = .ok (.iload_n 1, 1) := by decide +kernel
theorem dX4_isThere_13 : decode cX4_isThere 13 = .ok (.ifCond .lt 11, 3) := by decide +kernel
theorem dX4_isThere_16 : decode cX4_isThere 16 = .ok (.iload_n 1, 1) := by decide +kernel
theorem dX4_isThere_17 : decode cX4_isThere 17 = .ok (.aload_n 0, 1) := by decide +kernel
theorem dX4_isThere_18 : decode cX4_isThere 18 = .ok (.getfield 102, 3) := by decide +kernel
theorem dX4_isThere_21 : decode cX4_isThere 21 = .ok (.if_icmp .lt 7, 3) := by decide +kernel
theorem dX4_isThere_24 : decode cX4_isThere 24 = .ok (.iconst 2, 1) := by decide +kernel
theorem dX4_isThere_25 : decode cX4_isThere 25 = .ok (.goto 16, 3) := by decide +kernel
theorem dX4_isThere_28 : decode cX4_isThere 28 = .ok (.aload_n 0, 1) := by decide +kernel
theorem dX4_isThere_29 : decode cX4_isThere 29 = .ok (.iload_n 1, 1) := by decide +kernel
theorem dX4_isThere_30 : decode cX4_isThere 30 = .ok (.invokevirtual 121, 3) := by decide +kernel
theorem dX4_isThere_33 : decode cX4_isThere 33 = .ok (.ifCond .ne 7, 3) := by decide +kernel
theorem dX4_isThere_36 : decode cX4_isThere 36 = .ok (.iconst 3, 1) := by decide +kernel
theorem dX4_isThere_37 : decode cX4_isThere 37 = .ok (.goto 4, 3) := by decide +kernel
theorem dX4_isThere_40 : decode cX4_isThere 40 = .ok (.iconst 0, 1) := by decide +kernel
theorem dX4_isThere_41 : decode cX4_isThere 41 = .ok (.putfield 39, 3) := by decide +kernel
theorem dX4_isThere_44 : decode cX4_isThere 44 = .ok (.aload_n 0, 1) := by decide +kernel
theorem dX4_isThere_45 : decode cX4_isThere 45 = .ok (.getfield 39, 3) := by decide +kernel
theorem dX4_isThere_48 : decode cX4_isThere 48 = .ok (.ifCond .ne 7, 3) := by decide +kernel
theorem dX4_isThere_51 : decode cX4_isThere 51 = .ok (.iconst 1, 1) := by decide +kernel
theorem dX4_isThere_52 : decode cX4_isThere 52 = .ok (.goto 4, 3) := by decide +kernel
theorem dX4_isThere_55 : decode cX4_isThere 55 = .ok (.iconst 0, 1) := by decide +kernel
theorem dX4_isThere_56 : decode cX4_isThere 56 = .ok (.ireturn, 1) := by decide +kernel
theorem dX4_entries_0 : decode cX4_entries 0 = .ok (.aload_n 0, 1) := by decide +kernel
theorem dX4_entries_1 : decode cX4_entries 1 = .ok (.iload_n 1, 1) := by decide +kernel
theorem dX4_entries_2 : decode cX4_entries 2 = .ok (.invokevirtual 124, 3) := by decide +kernel
theorem dX4_entries_5 : decode cX4_entries 5 = .ok (.ifCond .eq 10, 3) := by decide +kernel
theorem dX4_entries_8 : decode cX4_entries 8 = .ok (.aload_n 0, 1) := by decide +kernel
theorem dX4_entries_9 : decode cX4_entries 9 = .ok (.getfield 110, 3) := by decide +kernel
theorem dX4_entries_12 : decode cX4_entries 12 = .ok (.goto 4, 3) := by decide +kernel
theorem dX4_entries_15 : decode cX4_entries 15 = .ok (.iconst 0, 1) := by decide +kernel
theorem dX4_entries_16 : decode cX4_entries 16 = .ok (.ireturn, 1) := by decide +kernel
theorem dX4_key_0 : decode cX4_key 0 = .ok (.aload_n 0, 1) := by decide +kernel
theorem dX4_key_1 : decode cX4_key 1 = .ok (.iload_n 1, 1) := by decide +kernel
theorem dX4_key_2 : decode cX4_key 2 = .ok (.invokevirtual 124, 3) := by decide +kernel
theorem dX4_key_5 : decode cX4_key 5 = .ok (.ifCond .ne 5, 3) := by decide +kernel
theorem dX4_key_8 : decode cX4_key 8 = .ok (.iconst 0, 1) := by decide +kernel
theorem dX4_key_9 : decode cX4_key 9 = .ok (.ireturn, 1) := by decide +kernel
theorem dX4_key_10 : decode cX4_key 10 = .ok (.aload_n 0, 1) := by decide +kernel
theorem dX4_key_11 : decode cX4_key 11 = .ok (.iload_n 2, 1) := by decide +kernel
theorem dX4_key_12 : decode cX4_key 12 = .ok (.ifCond .lt 11, 3) := by decide +kernel
theorem dX4_key_15 : decode cX4_key 15 = .ok (.iload_n 2, 1) := by decide +kernel
theorem dX4_key_16 : decode cX4_key 16 = .ok (.aload_n 0, 1) := by decide +kernel
theorem dX4_key_17 : decode cX4_key 17 = .ok (.getfield 110, 3) := by decide +kernel
theorem dX4_key_20 : decode cX4_key 20 = .ok (.if_icmp .lt 7, 3) := by decide +kernel
theorem dX4_key_23 : decode cX4_key 23 = .ok (.iconst 2, 1) := by decide +kernel
theorem dX4_key_24 : decode cX4_key 24 = .ok (.goto 4, 3) := by decide +kernel
theorem dX4_key_27 : decode cX4_key 27 = .ok (.iconst 0, 1) := by decide +kernel
theorem dX4_key_28 : decode cX4_key 28 = .ok (.putfield 39, 3) := by decide +kernel
theorem dX4_key_31 : decode cX4_key 31 = .ok (.aload_n 0, 1) := by decide +kernel
theorem dX4_key_32 : decode cX4_key 32 = .ok (.getfield 39, 3) := by decide +kernel
theorem dX4_key_35 : decode cX4_key 35 = .ok (.ifCond .le 7, 3) := by decide +kernel
theorem dX4_key_38 : decode cX4_key 38 = .ok (.iconst 0, 1) := by decide +kernel
theorem dX4_key_39 : decode cX4_key 39 = .ok (.goto 9, 3) := by decide +kernel
theorem dX4_key_42 : decode cX4_key 42 = .ok (.aload_n 0, 1) := by decide +kernel
theorem dX4_key_43 : decode cX4_key 43 = .ok (.getfield 30, 3) := by decide +kernel
theorem dX4_key_46 : decode cX4_key 46 = .ok (.iload_n 2, 1) := by decide +kernel
theorem dX4_key_47 : decode cX4_key 47 = .ok (.iaload, 1) := by decide +kernel
theorem dX4_key_48 : decode cX4_key 48 = .ok (.ireturn, 1) := by decide +kernel
theorem dX4_size_0 : decode cX4_size 0 = .ok (.aload_n 0, 1) := by decide +kernel
theorem dX4_size_1 : decode cX4_size 1 = .ok (.iconst 0, 1) := by decide +kernel
theorem dX4_size_2 : decode cX4_size 2 = .ok (.putfield 39, 3) := by decide +kernel
theorem dX4_size_5 : decode cX4_size 5 = .ok (.aload_n 0, 1) := by decide +kernel
theorem dX4_size_6 : decode cX4_size 6 = .ok (.getfield 45, 3) := by decide +kernel
theorem dX4_size_9 : decode cX4_size 9 = .ok (.ireturn, 1) := by decide +kernel
theorem dL_add_0 : decode cL_add 0 = .ok (.aload 4, 2) := by decide +kernel
theorem dL_add_2 : decode cL_add 2 = .ok (.iconst 0, 1) := by decide +kernel
theorem dL_add_3 : decode cL_add 3 = .ok (.aload_n 0, 1) := by decide +kernel
theorem dL_add_4 : decode cL_add 4 = .ok (.iload_n 1, 1) := by decide +kernel
theorem dL_add_5 : decode cL_add 5 = .ok (.lload_n 2, 1) := by decide +kernel
theorem dL_add_6 : decode cL_add 6 = .ok (.invokevirtual 7, 3) := by decide +kernel
theorem dL_add_9 : decode cL_add 9 = .ok (.i2l, 1) := by decide +kernel
theorem dL_add_10 : decode cL_add 10 = .ok (.lastore, 1) := by decide +kernel
theorem dL_add_11 : decode cL_add 11 = .ok (.goto 11, 3) := by decide +kernel
theorem dL_add_14 : decode cL_add 14 = .ok (.astore 5, 2) := by decide +kernel
theorem dL_add_16 : decode cL_add 16 = .ok (.iconst 1, 1) := by decide +kernel
theorem dL_add_17 : decode cL_add 17 = .ok (.ireturn, 1) := by decide +kernel
theorem dL_add_18 : decode cL_add 18 = .ok (.astore 5, 2) := by decide +kernel
theorem dL_add_20 : decode cL_add 20 = .ok (.iconst 2, 1) := by decide +kernel
theorem dL_add_21 : decode cL_add 21 = .ok (.ireturn, 1) := by decide +kernel
theorem dL_add_22 : decode cL_add 22 = .ok (.iconst 0, 1) := by decide +kernel
theorem dL_add_23 : decode cL_add 23 = .ok (.ireturn, 1) := by decide +kernel
theorem dL_at_0 : decode cL_at 0 = .ok (.aload_n 2, 1) := by decide +kernel
theorem dL_at_1 : decode cL_at 1 = .ok (.iconst 0, 1) := by decide +kernel
theorem dL_at_2 : decode cL_at 2 = .ok (.aload_n 0, 1) := by decide +kernel
theorem dL_at_3 : decode cL_at 3 = .ok (.iload_n 1, 1) := by decide +kernel
theorem dL_at_4 : decode cL_at 4 = .ok (.invokevirtual 17, 3) := by decide +kernel
theorem dL_at_7 : decode cL_at 7 = .ok (.i2l, 1) := by decide +kernel
theorem dL_at_8 : decode cL_at 8 = .ok (.lastore, 1) := by decide +kernel
theorem dL_at_9 : decode cL_at 9 = .ok (.goto 6, 3) := by decide +kernel
theorem dL_at_12 : decode cL_at 12 = .ok (.astore_n 3, 1) := by decide +kernel
theorem dL_at_13 : decode cL_at 13 = .ok (.iconst 1, 1) := by decide +kernel
theorem dL_at_14 : decode cL_at 14 = .ok (.ireturn, 1) := by decide +kernel
theorem dL_at_15 : decode cL_at 15 = .ok (.iconst 0, 1) := by decide +kernel
theorem dL_at_16 : decode cL_at 16 = .ok (.ireturn, 1) := by decide +kernel
theorem dL_damage_0 : decode cL_damage 0 = .ok (.aload_n 3, 1) := by decide +kernel
theorem dL_damage_1 : decode cL_damage 1 = .ok (.iconst 0, 1) := by decide +kernel
theorem dL_damage_2 : decode cL_damage 2 = .ok (.aload_n 0, 1) := by decide +kernel
theorem dL_damage_3 : decode cL_damage 3 = .ok (.iload_n 1, 1) := by decide +kernel
theorem dL_damage_4 : decode cL_damage 4 = .ok (.iload_n 2, 1) := by decide +kernel
theorem dL_damage_5 : decode cL_damage 5 = .ok (.invokevirtual 23, 3) := by decide +kernel
theorem dL_damage_8 : decode cL_damage 8 = .ok (.i2l, 1) := by decide +kernel
theorem dL_damage_9 : decode cL_damage 9 = .ok (.lastore, 1) := by decide +kernel
theorem dL_damage_10 : decode cL_damage 10 = .ok (.goto 7, 3) := by decide +kernel
theorem dL_damage_13 : decode cL_damage 13 = .ok (.astore 4, 2) := by decide +kernel
theorem dL_damage_15 : decode cL_damage 15 = .ok (.iconst 1, 1) := by decide +kernel
theorem dL_damage_16 : decode cL_damage 16 = .ok (.ireturn, 1) := by decide +kernel
theorem dL_damage_17 : decode cL_damage 17 = .ok (.iconst 0, 1) := by decide +kernel
theorem dL_damage_18 : decode cL_damage 18 = .ok (.ireturn, 1) := by decide +kernel
theorem dL_cut_0 : decode cL_cut 0 = .ok (.aload_n 0, 1) := by decide +kernel
theorem dL_cut_1 : decode cL_cut 1 = .ok (.iload_n 1, 1) := by decide +kernel
theorem dL_cut_2 : decode cL_cut 2 = .ok (.invokevirtual 27, 3) := by decide +kernel
theorem dL_cut_5 : decode cL_cut 5 = .ok (.goto 6, 3) := by decide +kernel
theorem dL_cut_8 : decode cL_cut 8 = .ok (.astore_n 2, 1) := by decide +kernel
theorem dL_cut_9 : decode cL_cut 9 = .ok (.iconst 1, 1) := by decide +kernel
theorem dL_cut_10 : decode cL_cut 10 = .ok (.ireturn, 1) := by decide +kernel
theorem dL_cut_11 : decode cL_cut 11 = .ok (.iconst 0, 1) := by decide +kernel
theorem dL_cut_12 : decode cL_cut 12 = .ok (.ireturn, 1) := by decide +kernel
theorem dL_open_0 : decode cL_open 0 = .ok (.aload_n 1, 1) := by decide +kernel
theorem dL_open_1 : decode cL_open 1 = .ok (.iconst 0, 1) := by decide +kernel
theorem dL_open_2 : decode cL_open 2 = .ok (.aload_n 0, 1) := by decide +kernel
theorem dL_open_3 : decode cL_open 3 = .ok (.invokevirtual 31, 3) := by decide +kernel
theorem dL_open_6 : decode cL_open 6 = .ok (.i2l, 1) := by decide +kernel
theorem dL_open_7 : decode cL_open 7 = .ok (.lastore, 1) := by decide +kernel
theorem dL_open_8 : decode cL_open 8 = .ok (.goto 6, 3) := by decide +kernel
theorem dL_open_11 : decode cL_open 11 = .ok (.astore_n 2, 1) := by decide +kernel
theorem dL_open_12 : decode cL_open 12 = .ok (.iconst 1, 1) := by decide +kernel
theorem dL_open_13 : decode cL_open 13 = .ok (.ireturn, 1) := by decide +kernel
theorem dL_open_14 : decode cL_open 14 = .ok (.iconst 0, 1) := by decide +kernel
theorem dL_open_15 : decode cL_open 15 = .ok (.ireturn, 1) := by decide +kernel
theorem dL_get_0 : decode cL_get 0 = .ok (.aload_n 2, 1) := by decide +kernel
theorem dL_get_1 : decode cL_get 1 = .ok (.iconst 0, 1) := by decide +kernel
theorem dL_get_2 : decode cL_get 2 = .ok (.aload_n 0, 1) := by decide +kernel
theorem dL_get_3 : decode cL_get 3 = .ok (.iload_n 1, 1) := by decide +kernel
theorem dL_get_4 : decode cL_get 4 = .ok (.invokevirtual 37, 3) := by decide +kernel
theorem dL_get_7 : decode cL_get 7 = .ok (.lastore, 1) := by decide +kernel
theorem dL_get_8 : decode cL_get 8 = .ok (.goto 12, 3) := by decide +kernel
theorem dL_get_11 : decode cL_get 11 = .ok (.astore_n 3, 1) := by decide +kernel
