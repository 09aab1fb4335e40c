theorem dX1_clear_0 : decode cX1_clear 0 = .ok (.aload_n 0, 1) := by decide +kernel
theorem dX1_clear_1 : decode cX1_clear 1 = .ok (.iconst 0, 1) := by decide +kernel
theorem dX1_clear_2 : decode cX1_clear 2 = .ok (.putfield 35, 3) := by decide +kernel
theorem dX1_clear_5 : decode cX1_clear 5 = .ok (.aload_n 0, 1) := by decide +kernel
theorem dX1_clear_6 : decode cX1_clear 6 = .ok (.getfield 39, 3) := by decide +kernel
theorem dX1_clear_9 : decode cX1_clear 9 = .ok (.istore_n 1, 1) := by decide +kernel
theorem dX1_clear_10 : decode cX1_clear 10 = .ok (.aload_n 0, 1) := by decide +kernel
theorem dX1_clear_11 : decode cX1_clear 11 = .ok (.iconst 0, 1) := by decide +kernel
theorem dX1_clear_12 : decode cX1_clear 12 = .ok (.putfield 39, 3) := by decide +kernel
theorem dX1_clear_15 : decode cX1_clear 15 = .ok (.aload_n 0, 1) := by decide +kernel
theorem dX1_clear_16 : decode cX1_clear 16 = .ok (.iconst 0, 1) := by decide +kernel
theorem dX1_clear_17 : decode cX1_clear 17 = .ok (.putfield 42, 3) := by decide +kernel
theorem dX1_clear_20 : decode cX1_clear 20 = .ok (.iload_n 1, 1) := by decide +kernel
theorem dX1_clear_21 : decode cX1_clear 21 = .ok (.ireturn, 1) := by decide +kernel
theorem dX1_settle_0 : decode cX1_settle 0 = .ok (.aload_n 0, 1) := by decide +kernel
theorem dX1_settle_1 : decode cX1_settle 1 = .ok (.iconst 0, 1) := by decide +kernel
theorem dX1_settle_2 : decode cX1_settle 2 = .ok (.putfield 35, 3) := by decide +kernel
theorem dX1_settle_5 : decode cX1_settle 5 = .ok (.aload_n 0, 1) := by decide +kernel
theorem dX1_settle_6 : decode cX1_settle 6 = .ok (.iconst 1, 1) := by decide +kernel
theorem dX1_settle_7 : decode cX1_settle 7 = .ok (.putfield 42, 3) := by decide +kernel
theorem dX1_settle_10 : decode cX1_settle 10 = .ok (.iconst 0, 1) := by decide +kernel
theorem dX1_settle_11 : decode cX1_settle 11 = .ok (.istore_n 1, 1) := by decide +kernel
theorem dX1_settle_12 : decode cX1_settle 12 = .ok (.iload_n 1, 1) := by decide +kernel
theorem dX1_settle_13 : decode cX1_settle 13 = .ok (.aload_n 0, 1) := by decide +kernel
theorem dX1_settle_14 : decode cX1_settle 14 = .ok (.getfield 39, 3) := by decide +kernel
theorem dX1_settle_17 : decode cX1_settle 17 = .ok (.if_icmp .ge 16, 3) := by decide +kernel
theorem dX1_settle_20 : decode cX1_settle 20 = .ok (.aload_n 0, 1) := by decide +kernel
theorem dX1_settle_21 : decode cX1_settle 21 = .ok (.getfield 28, 3) := by decide +kernel
theorem dX1_settle_24 : decode cX1_settle 24 = .ok (.iload_n 1, 1) := by decide +kernel
theorem dX1_settle_25 : decode cX1_settle 25 = .ok (.iconst 0, 1) := by decide +kernel
theorem dX1_settle_26 : decode cX1_settle 26 = .ok (.iastore, 1) := by decide +kernel
theorem dX1_settle_27 : decode cX1_settle 27 = .ok (.iinc 1 1, 3) := by decide +kernel
theorem dX1_settle_30 : decode cX1_settle 30 = .ok (.goto (-18), 3) := by decide +kernel
theorem dX1_settle_33 : decode cX1_settle 33 = .ok (.iconst 0, 1) := by decide +kernel
theorem dX1_settle_34 : decode cX1_settle 34 = .ok (.istore_n 1, 1) := by decide +kernel
theorem dX1_settle_35 : decode cX1_settle 35 = .ok (.iconst 0, 1) := by decide +kernel
theorem dX1_settle_36 : decode cX1_settle 36 = .ok (.istore_n 2, 1) := by decide +kernel
theorem dX1_settle_37 : decode cX1_settle 37 = .ok (.aload_n 0, 1) := by decide +kernel
theorem dX1_settle_38 : decode cX1_settle 38 = .ok (.aload_n 0, 1) := by decide +kernel
theorem dX1_settle_39 : decode cX1_settle 39 = .ok (.getfield 39, 3) := by decide +kernel
theorem dX1_settle_42 : decode cX1_settle 42 = .ok (.invokevirtual 46, 3) := by decide +kernel
theorem dX1_settle_45 : decode cX1_settle 45 = .ok (.sipush 4096, 3) := by decide +kernel
theorem dX1_settle_48 : decode cX1_settle 48 = .ok (.if_icmp .le 10, 3) := by decide +kernel
theorem dX1_settle_51 : decode cX1_settle 51 = .ok (.aload_n 0, 1) := by decide +kernel
theorem dX1_settle_52 : decode cX1_settle 52 = .ok (.iconst 1, 1) := by decide +kernel
theorem dX1_settle_53 : decode cX1_settle 53 = .ok (.putfield 35, 3) := by decide +kernel
theorem dX1_settle_56 : decode cX1_settle 56 = .ok (.iconst 0, 1) := by decide +kernel
theorem dX1_settle_57 : decode cX1_settle 57 = .ok (.ireturn, 1) := by decide +kernel
theorem dX1_settle_58 : decode cX1_settle 58 = .ok (.iconst 0, 1) := by decide +kernel
theorem dX1_settle_59 : decode cX1_settle 59 = .ok (.istore_n 3, 1) := by decide +kernel
theorem dX1_settle_60 : decode cX1_settle 60 = .ok (.iload_n 3, 1) := by decide +kernel
theorem dX1_settle_61 : decode cX1_settle 61 = .ok (.aload_n 0, 1) := by decide +kernel
theorem dX1_settle_62 : decode cX1_settle 62 = .ok (.getfield 39, 3) := by decide +kernel
theorem dX1_settle_65 : decode cX1_settle 65 = .ok (.if_icmp .ge 68, 3) := by decide +kernel
theorem dX1_settle_68 : decode cX1_settle 68 = .ok (.aload_n 0, 1) := by decide +kernel
theorem dX1_settle_69 : decode cX1_settle 69 = .ok (.getfield 31, 3) := by decide +kernel
theorem dX1_settle_72 : decode cX1_settle 72 = .ok (.iload_n 3, 1) := by decide +kernel
theorem dX1_settle_73 : decode cX1_settle 73 = .ok (.aload_n 0, 1) := by decide +kernel
theorem dX1_settle_74 : decode cX1_settle 74 = .ok (.iload_n 3, 1) := by decide +kernel
theorem dX1_settle_75 : decode cX1_settle 75 = .ok (.invokevirtual 56, 3) := by decide +kernel
theorem dX1_settle_78 : decode cX1_settle 78 = .ok (.ifCond .ne 7, 3) := by decide +kernel
theorem dX1_settle_81 : decode cX1_settle 81 = .ok (.iconst 1, 1) := by decide +kernel
theorem dX1_settle_82 : decode cX1_settle 82 = .ok (.goto 4, 3) := by decide +kernel
theorem dX1_settle_85 : decode cX1_settle 85 = .ok (.iconst 0, 1) := by decide +kernel
theorem dX1_settle_86 : decode cX1_settle 86 = .ok (.bastore, 1) := by decide +kernel
theorem dX1_settle_87 : decode cX1_settle 87 = .ok (.iload_n 2, 1) := by decide +kernel
theorem dX1_settle_88 : decode cX1_settle 88 = .ok (.aload_n 0, 1) := by decide +kernel
theorem dX1_settle_89 : decode cX1_settle 89 = .ok (.getfield 31, 3) := by decide +kernel
theorem dX1_settle_92 : decode cX1_settle 92 = .ok (.iload_n 3, 1) := by decide +kernel
theorem dX1_settle_93 : decode cX1_settle 93 = .ok (.baload, 1) := by decide +kernel
theorem dX1_settle_94 : decode cX1_settle 94 = .ok (.ior, 1) := by decide +kernel
theorem dX1_settle_95 : decode cX1_settle 95 = .ok (.istore_n 2, 1) := by decide +kernel
theorem dX1_settle_96 : decode cX1_settle 96 = .ok (.aload_n 0, 1) := by decide +kernel
theorem dX1_settle_97 : decode cX1_settle 97 = .ok (.getfield 31, 3) := by decide +kernel
theorem dX1_settle_100 : decode cX1_settle 100 = .ok (.iload_n 3, 1) := by decide +kernel
theorem dX1_settle_101 : decode cX1_settle 101 = .ok (.baload, 1) := by decide +kernel
theorem dX1_settle_102 : decode cX1_settle 102 = .ok (.ifCond .eq 25, 3) := by decide +kernel
theorem dX1_settle_105 : decode cX1_settle 105 = .ok (.aload_n 0, 1) := by decide +kernel
theorem dX1_settle_106 : decode cX1_settle 106 = .ok (.getfield 28, 3) := by decide +kernel
theorem dX1_settle_109 : decode cX1_settle 109 = .ok (.iload_n 3, 1) := by decide +kernel
theorem dX1_settle_110 : decode cX1_settle 110 = .ok (.iaload, 1) := by decide +kernel
theorem dX1_settle_111 : decode cX1_settle 111 = .ok (.aload_n 0, 1) := by decide +kernel
theorem dX1_settle_112 : decode cX1_settle 112 = .ok (.getfield 9, 3) := by decide +kernel
theorem dX1_settle_115 : decode cX1_settle 115 = .ok (.iload_n 3, 1) := by decide +kernel
theorem dX1_settle_116 : decode cX1_settle 116 = .ok (.iaload, 1) := by decide +kernel
theorem dX1_settle_117 : decode cX1_settle 117 = .ok (.iconst 1, 1) := by decide +kernel
theorem dX1_settle_118 : decode cX1_settle 118 = .ok (.isub, 1) := by decide +kernel
theorem dX1_settle_119 : decode cX1_settle 119 = .ok (.if_icmp .ne 8, 3) := by decide +kernel
theorem dX1_settle_122 : decode cX1_settle 122 = .ok (.aload_n 0, 1) := by decide +kernel
theorem dX1_settle_123 : decode cX1_settle 123 = .ok (.iconst 2, 1) := by decide +kernel
theorem dX1_settle_124 : decode cX1_settle 124 = .ok (.putfield 35, 3) := by decide +kernel
theorem dX1_settle_127 : decode cX1_settle 127 = .ok (.iinc 3 1, 3) := by decide +kernel
theorem dX1_settle_130 : decode cX1_settle 130 = .ok (.goto (-70), 3) := by decide +kernel
theorem dX1_settle_133 : decode cX1_settle 133 = .ok (.aload_n 0, 1) := by decide +kernel
theorem dX1_settle_134 : decode cX1_settle 134 = .ok (.getfield 35, 3) := by decide +kernel
theorem dX1_settle_137 : decode cX1_settle 137 = .ok (.ifCond .le 5, 3) := by decide +kernel
theorem dX1_settle_140 : decode cX1_settle 140 = .ok (.iconst 0, 1) := by decide +kernel
theorem dX1_settle_141 : decode cX1_settle 141 = .ok (.ireturn, 1) := by decide +kernel
theorem dX1_settle_142 : decode cX1_settle 142 = .ok (.iload_n 2, 1) := by decide +kernel
theorem dX1_settle_143 : decode cX1_settle 143 = .ok (.ifCond .ne 5, 3) := by decide +kernel
theorem dX1_settle_146 : decode cX1_settle 146 = .ok (.iload_n 1, 1) := by decide +kernel
theorem dX1_settle_147 : decode cX1_settle 147 = .ok (.ireturn, 1) := by decide +kernel
theorem dX1_settle_148 : decode cX1_settle 148 = .ok (.iconst 0, 1) := by decide +kernel
theorem dX1_settle_149 : decode cX1_settle 149 = .ok (.istore_n 3, 1) := by decide +kernel
theorem dX1_settle_150 : decode cX1_settle 150 = .ok (.iload_n 3, 1) := by decide +kernel
theorem dX1_settle_151 : decode cX1_settle 151 = .ok (.aload_n 0, 1) := by decide +kernel
theorem dX1_settle_152 : decode cX1_settle 152 = .ok (.getfield 39, 3) := by decide +kernel
theorem dX1_settle_155 : decode cX1_settle 155 = .ok (.if_icmp .ge 28, 3) := by decide +kernel
theorem dX1_settle_158 : decode cX1_settle 158 = .ok (.aload_n 0, 1) := by decide +kernel
theorem dX1_settle_159 : decode cX1_settle 159 = .ok (.getfield 31, 3) := by decide +kernel
theorem dX1_settle_162 : decode cX1_settle 162 = .ok (.iload_n 3, 1) := by decide +kernel
theorem dX1_settle_163 : decode cX1_settle 163 = .ok (.baload, 1) := by decide +kernel
theorem dX1_settle_164 : decode cX1_settle 164 = .ok (.ifCond .eq 13, 3) := by decide +kernel
theorem dX1_settle_167 : decode cX1_settle 167 = .ok (.aload_n 0, 1) := by decide +kernel
theorem dX1_settle_168 : decode cX1_settle 168 = .ok (.getfield 28, 3) := by decide +kernel
theorem dX1_settle_171 : decode cX1_settle 171 = .ok (.iload_n 3, 1) := by decide +kernel
theorem dX1_settle_172 : decode cX1_settle 172 = .ok (.dup2, 1) := by decide +kernel
theorem dX1_settle_173 : decode cX1_settle 173 = .ok (.iaload, 1) := by decide +kernel
theorem dX1_settle_174 : decode cX1_settle 174 = .ok (.iconst 1, 1) := by decide +kernel
theorem dX1_settle_175 : decode cX1_settle 175 = .ok (.iadd, 1) := by decide +kernel
theorem dX1_settle_176 : decode cX1_settle 176 = .ok (.iastore, 1) := by decide +kernel
theorem dX1_settle_177 : decode cX1_settle 177 = .ok (.iinc 3 1, 3) := by decide +kernel
theorem dX1_settle_180 : decode cX1_settle 180 = .ok (.goto (-30), 3) := by decide +kernel
theorem dX1_settle_183 : decode cX1_settle 183 = .ok (.iinc 1 1, 3) := by decide +kernel
theorem dX1_settle_186 : decode cX1_settle 186 = .ok (.goto (-151), 3) := by decide +kernel
theorem dX1_address_0 : decode cX1_address 0 = .ok (.iconst 0, 1) := by decide +kernel
theorem dX1_address_1 : decode cX1_address 1 = .ok (.istore_n 2, 1) := by decide +kernel
theorem dX1_address_2 : decode cX1_address 2 = .ok (.iconst 0, 1) := by decide +kernel
theorem dX1_address_3 : decode cX1_address 3 = .ok (.istore_n 3, 1) := by decide +kernel
theorem dX1_address_4 : decode cX1_address 4 = .ok (.iload_n 3, 1) := by decide +kernel
theorem dX1_address_5 : decode cX1_address 5 = .ok (.iload_n 1, 1) := by decide +kernel
theorem dX1_address_6 : decode cX1_address 6 = .ok (.if_icmp .ge 36, 3) := by decide +kernel
theorem dX1_address_9 : decode cX1_address 9 = .ok (.aload_n 0, 1) := by decide +kernel
theorem dX1_address_10 : decode cX1_address 10 = .ok (.getfield 9, 3) := by decide +kernel
theorem dX1_address_13 : decode cX1_address 13 = .ok (.iload_n 3, 1) := by decide +kernel
theorem dX1_address_14 : decode cX1_address 14 = .ok (.iaload, 1) := by decide +kernel
theorem dX1_address_15 : decode cX1_address 15 = .ok (.ifCond .le 21, 3) := by decide +kernel
theorem dX1_address_18 : decode cX1_address 18 = .ok (.iload_n 2, 1) := by decide +kernel
theorem dX1_address_19 : decode cX1_address 19 = .ok (.aload_n 0, 1) := by decide +kernel
theorem dX1_address_20 : decode cX1_address 20 = .ok (.getfield 13, 3) := by decide +kernel
theorem dX1_address_23 : decode cX1_address 23 = .ok (.iconst 4, 1) := by decide +kernel
theorem dX1_address_24 : decode cX1_address 24 = .ok (.iload_n 3, 1) := by decide +kernel
theorem dX1_address_25 : decode cX1_address 25 = .ok (.imul, 1) := by decide +kernel
theorem dX1_address_26 : decode cX1_address 26 = .ok (.aload_n 0, 1) := by decide +kernel
theorem dX1_address_27 : decode cX1_address 27 = .ok (.getfield 28, 3) := by decide +kernel
theorem dX1_address_30 : decode cX1_address 30 = .ok (.iload_n 3, 1) := by decide +kernel
theorem dX1_address_31 : decode cX1_address 31 = .ok (.iaload, 1) := by decide +kernel
theorem dX1_address_32 : decode cX1_address 32 = .ok (.iadd, 1) := by decide +kernel
theorem dX1_address_33 : decode cX1_address 33 = .ok (.iaload, 1) := by decide +kernel
theorem dX1_address_34 : decode cX1_address 34 = .ok (.iadd, 1) := by decide +kernel
theorem dX1_address_35 : decode cX1_address 35 = .ok (.istore_n 2, 1) := by decide +kernel
theorem dX1_address_36 : decode cX1_address 36 = .ok (.iinc 3 1, 3) := by decide +kernel
theorem dX1_address_39 : decode cX1_address 39 = .ok (.goto (-35), 3) := by decide +kernel
theorem dX1_address_42 : decode cX1_address 42 = .ok (.iload_n 2, 1) := by decide +kernel
theorem dX1_address_43 : decode cX1_address 43 = .ok (.ireturn, 1) := by decide +kernel
theorem dX1_isFitting_0 : decode cX1_isFitting 0 = .ok (.aload_n 0, 1) := by decide +kernel
theorem dX1_isFitting_1 : decode cX1_isFitting 1 = .ok (.getfield 9, 3) := by decide +kernel
theorem dX1_isFitting_4 : decode cX1_isFitting 4 = .ok (.iload_n 1, 1) := by decide +kernel
theorem dX1_isFitting_5 : decode cX1_isFitting 5 = .ok (.iaload, 1) := by decide +kernel
theorem dX1_isFitting_6 : decode cX1_isFitting 6 = .ok (.ifCond .ne 5, 3) := by decide +kernel
theorem dX1_isFitting_9 : decode cX1_isFitting 9 = .ok (.iconst 1, 1) := by decide +kernel
theorem dX1_isFitting_10 : decode cX1_isFitting 10 = .ok (.ireturn, 1) := by decide +kernel
theorem dX1_isFitting_11 : decode cX1_isFitting 11 = .ok (.iconst 4, 1) := by decide +kernel
theorem dX1_isFitting_12 : decode cX1_isFitting 12 = .ok (.iload_n 1, 1) := by decide +kernel
theorem dX1_isFitting_13 : decode cX1_isFitting 13 = .ok (.imul, 1) := by decide +kernel
theorem dX1_isFitting_14 : decode cX1_isFitting 14 = .ok (.aload_n 0, 1) := by decide +kernel
theorem dX1_isFitting_15 : decode cX1_isFitting 15 = .ok (.getfield 28, 3) := by decide +kernel
theorem dX1_isFitting_18 : decode cX1_isFitting 18 = .ok (.iload_n 1, 1) := by decide +kernel
theorem dX1_isFitting_19 : decode cX1_isFitting 19 = .ok (.iaload, 1) := by decide +kernel
theorem dX1_isFitting_20 : decode cX1_isFitting 20 = .ok (.iadd, 1) := by decide +kernel
theorem dX1_isFitting_21 : decode cX1_isFitting 21 = .ok (.istore_n 2, 1) := by decide +kernel
theorem dX1_isFitting_22 : decode cX1_isFitting 22 = .ok (.aload_n 0, 1) := by decide +kernel
theorem dX1_isFitting_23 : decode cX1_isFitting 23 = .ok (.iload_n 1, 1) := by decide +kernel
theorem dX1_isFitting_24 : decode cX1_isFitting 24 = .ok (.invokevirtual 50, 3) := by decide +kernel
theorem dX1_isFitting_27 : decode cX1_isFitting 27 = .ok (.lstore_n 3, 1) := by decide +kernel
theorem dX1_isFitting_28 : decode cX1_isFitting 28 = .ok (.lconst 1, 1) := by decide +kernel
theorem dX1_isFitting_29 : decode cX1_isFitting 29 = .ok (.aload_n 0, 1) := by decide +kernel
theorem dX1_isFitting_30 : decode cX1_isFitting 30 = .ok (.getfield 16, 3) := by decide +kernel
theorem dX1_isFitting_33 : decode cX1_isFitting 33 = .ok (.iload_n 2, 1) := by decide +kernel
theorem dX1_isFitting_34 : decode cX1_isFitting 34 = .ok (.iaload, 1) := by decide +kernel
theorem dX1_isFitting_35 : decode cX1_isFitting 35 = .ok (.iconst 1, 1) := by decide +kernel
theorem dX1_isFitting_36 : decode cX1_isFitting 36 = .ok (.isub, 1) := by decide +kernel
theorem dX1_isFitting_37 : decode cX1_isFitting 37 = .ok (.lshl, 1) := by decide +kernel
theorem dX1_isFitting_38 : decode cX1_isFitting 38 = .ok (.lstore 5, 2) := by decide +kernel
theorem dX1_isFitting_40 : decode cX1_isFitting 40 = .ok (.aload_n 0, 1) := by decide +kernel
theorem dX1_isFitting_41 : decode cX1_isFitting 41 = .ok (.getfield 19, 3) := by decide +kernel
theorem dX1_isFitting_44 : decode cX1_isFitting 44 = .ok (.iload_n 2, 1) := by decide +kernel
theorem dX1_isFitting_45 : decode cX1_isFitting 45 = .ok (.iaload, 1) := by decide +kernel
theorem dX1_isFitting_46 : decode cX1_isFitting 46 = .ok (.ifCond .ne 28, 3) := by decide +kernel
theorem dX1_isFitting_49 : decode cX1_isFitting 49 = .ok (.lload_n 3, 1) := by decide +kernel
theorem dX1_isFitting_50 : decode cX1_isFitting 50 = .ok (.lconst 0, 1) := by decide +kernel
theorem dX1_isFitting_51 : decode cX1_isFitting 51 = .ok (.lcmp, 1) := by decide +kernel
theorem dX1_isFitting_52 : decode cX1_isFitting 52 = .ok (.ifCond .lt 18, 3) := by decide +kernel
theorem dX1_isFitting_55 : decode cX1_isFitting 55 = .ok (.lload_n 3, 1) := by decide +kernel
theorem dX1_isFitting_56 : decode cX1_isFitting 56 = .ok (.ldc2_w 54, 3) := by decide +kernel
theorem dX1_isFitting_59 : decode cX1_isFitting 59 = .ok (.lload 5, 2) := by decide +kernel
theorem dX1_isFitting_61 : decode cX1_isFitting 61 = .ok (.lmul, 1) := by decide +kernel
theorem dX1_isFitting_62 : decode cX1_isFitting 62 = .ok (.lcmp, 1) := by decide +kernel
theorem dX1_isFitting_63 : decode cX1_isFitting 63 = .ok (.ifCond .ge 7, 3) := by decide +kernel
theorem dX1_isFitting_66 : decode cX1_isFitting 66 = .ok (.iconst 1, 1) := by decide +kernel
theorem dX1_isFitting_67 : decode cX1_isFitting 67 = .ok (.goto 27, 3) := by decide +kernel
theorem dX1_isFitting_70 : decode cX1_isFitting 70 = .ok (.iconst 0, 1) := by decide +kernel
theorem dX1_isFitting_71 : decode cX1_isFitting 71 = .ok (.goto 23, 3) := by decide +kernel
theorem dX1_isFitting_74 : decode cX1_isFitting 74 = .ok (.lload_n 3, 1) := by decide +kernel
theorem dX1_isFitting_75 : decode cX1_isFitting 75 = .ok (.lload 5, 2) := by decide +kernel
theorem dX1_isFitting_77 : decode cX1_isFitting 77 = .ok (.lneg, 1) := by decide +kernel
theorem dX1_isFitting_78 : decode cX1_isFitting 78 = .ok (.lcmp, 1) := by decide +kernel
theorem dX1_isFitting_79 : decode cX1_isFitting 79 = .ok (.ifCond .lt 14, 3) := by decide +kernel
theorem dX1_isFitting_82 : decode cX1_isFitting 82 = .ok (.lload_n 3, 1) := by decide +kernel
theorem dX1_isFitting_83 : decode cX1_isFitting 83 = .ok (.lload 5, 2) := by decide +kernel
theorem dX1_isFitting_85 : decode cX1_isFitting 85 = .ok (.lcmp, 1) := by decide +kernel
theorem dX1_isFitting_86 : decode cX1_isFitting 86 = .ok (.ifCond .ge 7, 3) := by decide +kernel
theorem dX1_isFitting_89 : decode cX1_isFitting 89 = .ok (.iconst 1, 1) := by decide +kernel
theorem dX1_isFitting_90 : decode cX1_isFitting 90 = .ok (.goto 4, 3) := by decide +kernel
theorem dX1_isFitting_93 : decode cX1_isFitting 93 = .ok (.iconst 0, 1) := by decide +kernel
theorem dX1_isFitting_94 : decode cX1_isFitting 94 = .ok (.ireturn, 1) := by decide +kernel
theorem dX1_worth_0 : decode cX1_worth 0 = .ok (.aload_n 0, 1) := by decide +kernel
theorem dX1_worth_1 : decode cX1_worth 1 = .ok (.aload_n 0, 1) := by decide +kernel
theorem dX1_worth_2 : decode cX1_worth 2 = .ok (.getfield 22, 3) := by decide +kernel
theorem dX1_worth_5 : decode cX1_worth 5 = .ok (.iload_n 1, 1) := by decide +kernel
theorem dX1_worth_6 : decode cX1_worth 6 = .ok (.iaload, 1) := by decide +kernel
theorem dX1_worth_7 : decode cX1_worth 7 = .ok (.invokevirtual 46, 3) := by decide +kernel
theorem dX1_worth_10 : decode cX1_worth 10 = .ok (.i2l, 1) := by decide +kernel
theorem dX1_worth_11 : decode cX1_worth 11 = .ok (.aload_n 0, 1) := by decide +kernel
theorem dX1_worth_12 : decode cX1_worth 12 = .ok (.getfield 25, 3) := by decide +kernel
theorem dX1_worth_15 : decode cX1_worth 15 = .ok (.iload_n 1, 1) := by decide +kernel
theorem dX1_worth_16 : decode cX1_worth 16 = .ok (.iaload, 1) := by decide +kernel
theorem dX1_worth_17 : decode cX1_worth 17 = .ok (.i2l, 1) := by decide +kernel
theorem dX1_worth_18 : decode cX1_worth 18 = .ok (.ladd, 1) := by decide +kernel
theorem dX1_worth_19 : decode cX1_worth 19 = .ok (.lstore_n 2, 1) := by decide +kernel
theorem dX1_worth_20 : decode cX1_worth 20 = .ok (.aload_n 0, 1) := by decide +kernel
theorem dX1_worth_21 : decode cX1_worth 21 = .ok (.getfield 9, 3) := by decide +kernel
theorem dX1_worth_24 : decode cX1_worth 24 = .ok (.iload_n 1, 1) := by decide +kernel
theorem dX1_worth_25 : decode cX1_worth 25 = .ok (.iaload, 1) := by decide +kernel
theorem dX1_worth_26 : decode cX1_worth 26 = .ok (.ifCond .le 33, 3) := by decide +kernel
theorem dX1_worth_29 : decode cX1_worth 29 = .ok (.aload_n 0, 1) := by decide +kernel
theorem dX1_worth_30 : decode cX1_worth 30 = .ok (.getfield 19, 3) := by decide +kernel
theorem dX1_worth_33 : decode cX1_worth 33 = .ok (.iconst 4, 1) := by decide +kernel
theorem dX1_worth_34 : decode cX1_worth 34 = .ok (.iload_n 1, 1) := by decide +kernel
theorem dX1_worth_35 : decode cX1_worth 35 = .ok (.imul, 1) := by decide +kernel
theorem dX1_worth_36 : decode cX1_worth 36 = .ok (.aload_n 0, 1) := by decide +kernel
theorem dX1_worth_37 : decode cX1_worth 37 = .ok (.getfield 28, 3) := by decide +kernel
theorem dX1_worth_40 : decode cX1_worth 40 = .ok (.iload_n 1, 1) := by decide +kernel
theorem dX1_worth_41 : decode cX1_worth 41 = .ok (.iaload, 1) := by decide +kernel
theorem dX1_worth_42 : decode cX1_worth 42 = .ok (.iadd, 1) := by decide +kernel
theorem dX1_worth_43 : decode cX1_worth 43 = .ok (.iaload, 1) := by decide +kernel
theorem dX1_worth_44 : decode cX1_worth 44 = .ok (.iconst 2, 1) := by decide +kernel
theorem dX1_worth_45 : decode cX1_worth 45 = .ok (.if_icmp .ne 14, 3) := by decide +kernel
theorem dX1_worth_48 : decode cX1_worth 48 = .ok (.lload_n 2, 1) := by decide +kernel
theorem dX1_worth_49 : decode cX1_worth 49 = .ok (.aload_n 0, 1) := by decide +kernel
theorem dX1_worth_50 : decode cX1_worth 50 = .ok (.iload_n 1, 1) := by decide +kernel
theorem dX1_worth_51 : decode cX1_worth 51 = .ok (.invokevirtual 46, 3) := by decide +kernel
theorem dX1_worth_54 : decode cX1_worth 54 = .ok (.i2l, 1) := by decide +kernel
theorem dX1_worth_55 : decode cX1_worth 55 = .ok (.lsub, 1) := by decide +kernel
theorem dX1_worth_56 : decode cX1_worth 56 = .ok (.goto 4, 3) := by decide +kernel
theorem dX1_worth_59 : decode cX1_worth 59 = .ok (.lload_n 2, 1) := by decide +kernel
theorem dX1_worth_60 : decode cX1_worth 60 = .ok (.lreturn, 1) := by decide +kernel
theorem dX1_told_0 : decode cX1_told 0 = .ok (.aload_n 0, 1) := by decide +kernel
theorem dX1_told_1 : decode cX1_told 1 = .ok (.iload_n 2, 1) := by decide +kernel
theorem dX1_told_2 : decode cX1_told 2 = .ok (.ifCond .lt 8, 3) := by decide +kernel
theorem dX1_told_5 : decode cX1_told 5 = .ok (.iload_n 2, 1) := by decide +kernel
theorem dX1_told_6 : decode cX1_told 6 = .ok (.iconst 2, 1) := by decide +kernel
theorem dX1_told_7 : decode cX1_told 7 = .ok (.if_icmp .le 7, 3) := by decide +kernel
theorem dX1_told_10 : decode cX1_told 10 = .ok (.iconst 3, 1) := by decide +kernel
theorem dX1_told_11 : decode cX1_told 11 = .ok (.goto 43, 3) := by decide +kernel
theorem dX1_told_14 : decode cX1_told 14 = .ok (.aload_n 0, 1) := by decide +kernel
theorem dX1_told_15 : decode cX1_told 15 = .ok (.getfield 42, 3) := by decide +kernel
theorem dX1_told_18 : decode cX1_told 18 = .ok (.ifCond .ne 7, 3) := by decide +kernel
theorem dX1_told_21 : decode cX1_told 21 = .ok (.iconst 1, 1) := by decide +kernel
theorem dX1_told_22 : decode cX1_told 22 = .ok (.goto 32, 3) := by decide +kernel
theorem dX1_told_25 : decode cX1_told 25 = .ok (.iload_n 1, 1) := by decide +kernel
theorem dX1_told_26 : decode cX1_told 26 = .ok (.ifCond .lt 23, 3) := by decide +kernel
theorem dX1_told_29 : decode cX1_told 29 = .ok (.iload_n 1, 1) := by decide +kernel
theorem dX1_told_30 : decode cX1_told 30 = .ok (.aload_n 0, 1) := by decide +kernel
theorem dX1_told_31 : decode cX1_told 31 = .ok (.getfield 39, 3) := by decide +kernel
theorem dX1_told_34 : decode cX1_told 34 = .ok (.if_icmp .gt 15, 3) := by decide +kernel
theorem dX1_told_37 : decode cX1_told 37 = .ok (.iload_n 1, 1) := by decide +kernel
theorem dX1_told_38 : decode cX1_told 38 = .ok (.aload_n 0, 1) := by decide +kernel
theorem dX1_told_39 : decode cX1_told 39 = .ok (.getfield 39, 3) := by decide +kernel
theorem dX1_told_42 : decode cX1_told 42 = .ok (.if_icmp .ne 11, 3) := by decide +kernel
theorem dX1_told_45 : decode cX1_told 45 = .ok (.iload_n 2, 1) := by decide +kernel
theorem dX1_told_46 : decode cX1_told 46 = .ok (.ifCond .le 7, 3) := by decide +kernel
theorem dX1_told_49 : decode cX1_told 49 = .ok (.iconst 2, 1) := by decide +kernel
theorem dX1_told_50 : decode cX1_told 50 = .ok (.goto 4, 3) := by decide +kernel
theorem dX1_told_53 : decode cX1_told 53 = .ok (.iconst 0, 1) := by decide +kernel
theorem dX1_told_54 : decode cX1_told 54 = .ok (.putfield 35, 3) := by decide +kernel
theorem dX1_told_57 : decode cX1_told 57 = .ok (.aload_n 0, 1) := by decide +kernel
theorem dX1_told_58 : decode cX1_told 58 = .ok (.getfield 35, 3) := by decide +kernel
theorem dX1_told_61 : decode cX1_told 61 = .ok (.ifCond .le 5, 3) := by decide +kernel
theorem dX1_told_64 : decode cX1_told 64 = .ok (.iconst 0, 1) := by decide +kernel
theorem dX1_told_65 : decode cX1_told 65 = .ok (.ireturn, 1) := by decide +kernel
theorem dX1_told_66 : decode cX1_told 66 = .ok (.iload_n 2, 1) := by decide +kernel
theorem dX1_told_67 : decode cX1_told 67 = .ok (.ifCond .ne 9, 3) := by decide +kernel
theorem dX1_told_70 : decode cX1_told 70 = .ok (.aload_n 0, 1) := by decide +kernel
theorem dX1_told_71 : decode cX1_told 71 = .ok (.iload_n 1, 1) := by decide +kernel
theorem dX1_told_72 : decode cX1_told 72 = .ok (.invokevirtual 46, 3) := by decide +kernel
theorem dX1_told_75 : decode cX1_told 75 = .ok (.ireturn, 1) := by decide +kernel
theorem dX1_told_76 : decode cX1_told 76 = .ok (.iload_n 2, 1) := by decide +kernel
theorem dX1_told_77 : decode cX1_told 77 = .ok (.iconst 1, 1) := by decide +kernel
theorem dX1_told_78 : decode cX1_told 78 = .ok (.if_icmp .ne 23, 3) := by decide +kernel
theorem dX1_told_81 : decode cX1_told 81 = .ok (.aload_n 0, 1) := by decide +kernel
theorem dX1_told_82 : decode cX1_told 82 = .ok (.getfield 9, 3) := by decide +kernel
theorem dX1_told_85 : decode cX1_told 85 = .ok (.iload_n 1, 1) := by decide +kernel
theorem dX1_told_86 : decode cX1_told 86 = .ok (.iaload, 1) := by decide +kernel
theorem dX1_told_87 : decode cX1_told 87 = .ok (.ifCond .ne 7, 3) := by decide +kernel
theorem dX1_told_90 : decode cX1_told 90 = .ok (.iconst (-1), 1) := by decide +kernel
theorem dX1_told_91 : decode cX1_told 91 = .ok (.goto 9, 3) := by decide +kernel
theorem dX1_told_94 : decode cX1_told 94 = .ok (.aload_n 0, 1) := by decide +kernel
theorem dX1_told_95 : decode cX1_told 95 = .ok (.getfield 28, 3) := by decide +kernel
theorem dX1_told_98 : decode cX1_told 98 = .ok (.iload_n 1, 1) := by decide +kernel
theorem dX1_told_99 : decode cX1_told 99 = .ok (.iaload, 1) := by decide +kernel
theorem dX1_told_100 : decode cX1_told 100 = .ok (.ireturn, 1) := by decide +kernel
theorem dX1_told_101 : decode cX1_told 101 = .ok (.aload_n 0, 1) := by decide +kernel
theorem dX1_told_102 : decode cX1_told 102 = .ok (.iload_n 1, 1) := by decide +kernel
theorem dX1_told_103 : decode cX1_told 103 = .ok (.invokevirtual 56, 3) := by decide +kernel
theorem dX1_told_106 : decode cX1_told 106 = .ok (.ifCond .eq 7, 3) := by decide +kernel
theorem dX1_told_109 : decode cX1_told 109 = .ok (.iconst 1, 1) := by decide +kernel
theorem dX1_told_110 : decode cX1_told 110 = .ok (.goto 4, 3) := by decide +kernel
theorem dX1_told_113 : decode cX1_told 113 = .ok (.iconst 0, 1) := by decide +kernel
theorem dX1_told_114 : decode cX1_told 114 = .ok (.ireturn, 1) := by decide +kernel
theorem dX1_value_0 : decode cX1_value 0 = .ok (.aload_n 0, 1) := by decide +kernel
theorem dX1_value_1 : decode cX1_value 1 = .ok (.aload_n 0, 1) := by decide +kernel
theorem dX1_value_2 : decode cX1_value 2 = .ok (.getfield 42, 3) := by decide +kernel
theorem dX1_value_5 : decode cX1_value 5 = .ok (.ifCond .ne 7, 3) := by decide +kernel
theorem dX1_value_8 : decode cX1_value 8 = .ok (.iconst 1, 1) := by decide +kernel
theorem dX1_value_9 : decode cX1_value 9 = .ok (.goto 20, 3) := by decide +kernel
theorem dX1_value_12 : decode cX1_value 12 = .ok (.iload_n 1, 1) := by decide +kernel
theorem dX1_value_13 : decode cX1_value 13 = .ok (.ifCond .lt 11, 3) := by decide +kernel
theorem dX1_value_16 : decode cX1_value 16 = .ok (.iload_n 1, 1) := by decide +kernel
theorem dX1_value_17 : decode cX1_value 17 = .ok (.aload_n 0, 1) := by decide +kernel
theorem dX1_value_18 : decode cX1_value 18 = .ok (.getfield 39, 3) := by decide +kernel
theorem dX1_value_21 : decode cX1_value 21 = .ok (.if_icmp .lt 7, 3) := by decide +kernel
theorem dX1_value_24 : decode cX1_value 24 = .ok (.iconst 2, 1) := by decide +kernel
theorem dX1_value_25 : decode cX1_value 25 = .ok (.goto 4, 3) := by decide +kernel
theorem dX1_value_28 : decode cX1_value 28 = .ok (.iconst 0, 1) := by decide +kernel
theorem dX1_value_29 : decode cX1_value 29 = .ok (.putfield 35, 3) := by decide +kernel
theorem dX1_value_32 : decode cX1_value 32 = .ok (.aload_n 0, 1) := by decide +kernel
theorem dX1_value_33 : decode cX1_value 33 = .ok (.getfield 35, 3) := by decide +kernel
theorem dX1_value_36 : decode cX1_value 36 = .ok (.ifCond .le 7, 3) := by decide +kernel
theorem dX1_value_39 : decode cX1_value 39 = .ok (.lconst 0, 1) := by decide +kernel
theorem dX1_value_40 : decode cX1_value 40 = .ok (.goto 8, 3) := by decide +kernel
theorem dX1_value_43 : decode cX1_value 43 = .ok (.aload_n 0, 1) := by decide +kernel
theorem dX1_value_44 : decode cX1_value 44 = .ok (.iload_n 1, 1) := by decide +kernel
theorem dX1_value_45 : decode cX1_value 45 = .ok (.invokevirtual 50, 3) := by decide +kernel
theorem dX1_value_48 : decode cX1_value 48 = .ok (.lreturn, 1) := by decide +kernel
theorem dX1_wrong_0 : decode cX1_wrong 0 = .ok (.aload_n 0, 1) := by decide +kernel
theorem dX1_wrong_1 : decode cX1_wrong 1 = .ok (.aload_n 0, 1) := by decide +kernel
theorem dX1_wrong_2 : decode cX1_wrong 2 = .ok (.getfield 42, 3) := by decide +kernel
theorem dX1_wrong_5 : decode cX1_wrong 5 = .ok (.ifCond .eq 7, 3) := by decide +kernel
theorem dX1_wrong_8 : decode cX1_wrong 8 = .ok (.iconst 0, 1) := by decide +kernel
theorem dX1_wrong_9 : decode cX1_wrong 9 = .ok (.goto 4, 3) := by decide +kernel
theorem dX1_wrong_12 : decode cX1_wrong 12 = .ok (.iconst 1, 1) := by decide +kernel
theorem dX1_wrong_13 : decode cX1_wrong 13 = .ok (.putfield 35, 3) := by decide +kernel
theorem dX1_wrong_16 : decode cX1_wrong 16 = .ok (.aload_n 0, 1) := by decide +kernel
theorem dX1_wrong_17 : decode cX1_wrong 17 = .ok (.getfield 35, 3) := by decide +kernel
theorem dX1_wrong_20 : decode cX1_wrong 20 = .ok (.ifCond .le 5, 3) := by decide +kernel
theorem dX1_wrong_23 : decode cX1_wrong 23 = .ok (.iconst 0, 1) := by decide +kernel
theorem dX1_wrong_24 : decode cX1_wrong 24 = .ok (.ireturn, 1) := by decide +kernel
theorem dX1_wrong_25 : decode cX1_wrong 25 = .ok (.iconst 0, 1) := by decide +kernel
theorem dX1_wrong_26 : decode cX1_wrong 26 = .ok (.istore_n 1, 1) := by decide +kernel
theorem dX1_wrong_27 : decode cX1_wrong 27 = .ok (.iload_n 1, 1) := by decide +kernel
theorem dX1_wrong_28 : decode cX1_wrong 28 = .ok (.aload_n 0, 1) := by decide +kernel
theorem dX1_wrong_29 : decode cX1_wrong 29 = .ok (.getfield 39, 3) := by decide +kernel
theorem dX1_wrong_32 : decode cX1_wrong 32 = .ok (.if_icmp .ge 19, 3) := by decide +kernel
theorem dX1_wrong_35 : decode cX1_wrong 35 = .ok (.aload_n 0, 1) := by decide +kernel
theorem dX1_wrong_36 : decode cX1_wrong 36 = .ok (.iload_n 1, 1) := by decide +kernel
theorem dX1_wrong_37 : decode cX1_wrong 37 = .ok (.invokevirtual 56, 3) := by decide +kernel
theorem dX1_wrong_40 : decode cX1_wrong 40 = .ok (.ifCond .ne 5, 3) := by decide +kernel
theorem dX1_wrong_43 : decode cX1_wrong 43 = .ok (.iload_n 1, 1) := by decide +kernel
theorem dX1_wrong_44 : decode cX1_wrong 44 = .ok (.ireturn, 1) := by decide +kernel
theorem dX1_wrong_45 : decode cX1_wrong 45 = .ok (.iinc 1 1, 3) := by decide +kernel
theorem dX1_wrong_48 : decode cX1_wrong 48 = .ok (.goto (-21), 3) := by decide +kernel
theorem dX1_wrong_51 : decode cX1_wrong 51 = .ok (.iconst (-1), 1) := by decide +kernel
theorem dX1_wrong_52 : decode cX1_wrong 52 = .ok (.ireturn, 1) := by decide +kernel
