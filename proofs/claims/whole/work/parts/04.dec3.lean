theorem dX1_init_0 : decode cX1_init 0 = .ok (.aload_n 0, 1) := by decide +kernel
theorem dX1_init_1 : decode cX1_init 1 = .ok (.invokespecial 1, 3) := by decide +kernel
theorem dX1_init_4 : decode cX1_init 4 = .ok (.aload_n 0, 1) := by decide +kernel
theorem dX1_init_5 : decode cX1_init 5 = .ok (.bipush 120, 2) := by decide +kernel
theorem dX1_init_7 : decode cX1_init 7 = .ok (.newarray .int, 2) := by decide +kernel
theorem dX1_init_9 : decode cX1_init 9 = .ok (.putfield 9, 3) := by decide +kernel
theorem dX1_init_12 : decode cX1_init 12 = .ok (.aload_n 0, 1) := by decide +kernel
theorem dX1_init_13 : decode cX1_init 13 = .ok (.sipush 480, 3) := by decide +kernel
theorem dX1_init_16 : decode cX1_init 16 = .ok (.newarray .int, 2) := by decide +kernel
theorem dX1_init_18 : decode cX1_init 18 = .ok (.putfield 13, 3) := by decide +kernel
theorem dX1_init_21 : decode cX1_init 21 = .ok (.aload_n 0, 1) := by decide +kernel
theorem dX1_init_22 : decode cX1_init 22 = .ok (.sipush 480, 3) := by decide +kernel
theorem dX1_init_25 : decode cX1_init 25 = .ok (.newarray .int, 2) := by decide +kernel
theorem dX1_init_27 : decode cX1_init 27 = .ok (.putfield 16, 3) := by decide +kernel
theorem dX1_init_30 : decode cX1_init 30 = .ok (.aload_n 0, 1) := by decide +kernel
theorem dX1_init_31 : decode cX1_init 31 = .ok (.sipush 480, 3) := by decide +kernel
theorem dX1_init_34 : decode cX1_init 34 = .ok (.newarray .int, 2) := by decide +kernel
theorem dX1_init_36 : decode cX1_init 36 = .ok (.putfield 19, 3) := by decide +kernel
theorem dX1_init_39 : decode cX1_init 39 = .ok (.aload_n 0, 1) := by decide +kernel
theorem dX1_init_40 : decode cX1_init 40 = .ok (.bipush 120, 2) := by decide +kernel
theorem dX1_init_42 : decode cX1_init 42 = .ok (.newarray .int, 2) := by decide +kernel
theorem dX1_init_44 : decode cX1_init 44 = .ok (.putfield 22, 3) := by decide +kernel
theorem dX1_init_47 : decode cX1_init 47 = .ok (.aload_n 0, 1) := by decide +kernel
theorem dX1_init_48 : decode cX1_init 48 = .ok (.bipush 120, 2) := by decide +kernel
theorem dX1_init_50 : decode cX1_init 50 = .ok (.newarray .int, 2) := by decide +kernel
theorem dX1_init_52 : decode cX1_init 52 = .ok (.putfield 25, 3) := by decide +kernel
theorem dX1_init_55 : decode cX1_init 55 = .ok (.aload_n 0, 1) := by decide +kernel
theorem dX1_init_56 : decode cX1_init 56 = .ok (.bipush 120, 2) := by decide +kernel
theorem dX1_init_58 : decode cX1_init 58 = .ok (.newarray .int, 2) := by decide +kernel
theorem dX1_init_60 : decode cX1_init 60 = .ok (.putfield 28, 3) := by decide +kernel
theorem dX1_init_63 : decode cX1_init 63 = .ok (.aload_n 0, 1) := by decide +kernel
theorem dX1_init_64 : decode cX1_init 64 = .ok (.bipush 120, 2) := by decide +kernel
theorem dX1_init_66 : decode cX1_init 66 = .ok (.newarray .boolean, 2) := by decide +kernel
theorem dX1_init_68 : decode cX1_init 68 = .ok (.putfield 31, 3) := by decide +kernel
theorem dX1_init_71 : decode cX1_init 71 = .ok (.return_, 1) := by decide +kernel
theorem dX1_thrown_0 : decode cX1_thrown 0 = .ok (.aload_n 0, 1) := by decide +kernel
theorem dX1_thrown_1 : decode cX1_thrown 1 = .ok (.getfield 35, 3) := by decide +kernel
theorem dX1_thrown_4 : decode cX1_thrown 4 = .ok (.ireturn, 1) := by decide +kernel
theorem dX1_line_0 : decode cX1_line 0 = .ok (.aload_n 0, 1) := by decide +kernel
theorem dX1_line_1 : decode cX1_line 1 = .ok (.aload_n 0, 1) := by decide +kernel
theorem dX1_line_2 : decode cX1_line 2 = .ok (.getfield 39, 3) := by decide +kernel
theorem dX1_line_5 : decode cX1_line 5 = .ok (.bipush 120, 2) := by decide +kernel
theorem dX1_line_7 : decode cX1_line 7 = .ok (.if_icmp .ne 7, 3) := by decide +kernel
theorem dX1_line_10 : decode cX1_line 10 = .ok (.iconst 1, 1) := by decide +kernel
theorem dX1_line_11 : decode cX1_line 11 = .ok (.goto 4, 3) := by decide +kernel
theorem dX1_line_14 : decode cX1_line 14 = .ok (.iconst 0, 1) := by decide +kernel
theorem dX1_line_15 : decode cX1_line 15 = .ok (.putfield 35, 3) := by decide +kernel
theorem dX1_line_18 : decode cX1_line 18 = .ok (.aload_n 0, 1) := by decide +kernel
theorem dX1_line_19 : decode cX1_line 19 = .ok (.getfield 35, 3) := by decide +kernel
theorem dX1_line_22 : decode cX1_line 22 = .ok (.ifCond .le 5, 3) := by decide +kernel
theorem dX1_line_25 : decode cX1_line 25 = .ok (.iconst 0, 1) := by decide +kernel
theorem dX1_line_26 : decode cX1_line 26 = .ok (.ireturn, 1) := by decide +kernel
theorem dX1_line_27 : decode cX1_line 27 = .ok (.aload_n 0, 1) := by decide +kernel
theorem dX1_line_28 : decode cX1_line 28 = .ok (.getfield 9, 3) := by decide +kernel
theorem dX1_line_31 : decode cX1_line 31 = .ok (.aload_n 0, 1) := by decide +kernel
theorem dX1_line_32 : decode cX1_line 32 = .ok (.getfield 39, 3) := by decide +kernel
theorem dX1_line_35 : decode cX1_line 35 = .ok (.iconst 0, 1) := by decide +kernel
theorem dX1_line_36 : decode cX1_line 36 = .ok (.iastore, 1) := by decide +kernel
theorem dX1_line_37 : decode cX1_line 37 = .ok (.aload_n 0, 1) := by decide +kernel
theorem dX1_line_38 : decode cX1_line 38 = .ok (.getfield 22, 3) := by decide +kernel
theorem dX1_line_41 : decode cX1_line 41 = .ok (.aload_n 0, 1) := by decide +kernel
theorem dX1_line_42 : decode cX1_line 42 = .ok (.getfield 39, 3) := by decide +kernel
theorem dX1_line_45 : decode cX1_line 45 = .ok (.iconst 0, 1) := by decide +kernel
theorem dX1_line_46 : decode cX1_line 46 = .ok (.iastore, 1) := by decide +kernel
theorem dX1_line_47 : decode cX1_line 47 = .ok (.aload_n 0, 1) := by decide +kernel
theorem dX1_line_48 : decode cX1_line 48 = .ok (.getfield 25, 3) := by decide +kernel
theorem dX1_line_51 : decode cX1_line 51 = .ok (.aload_n 0, 1) := by decide +kernel
theorem dX1_line_52 : decode cX1_line 52 = .ok (.getfield 39, 3) := by decide +kernel
theorem dX1_line_55 : decode cX1_line 55 = .ok (.iconst 0, 1) := by decide +kernel
theorem dX1_line_56 : decode cX1_line 56 = .ok (.iastore, 1) := by decide +kernel
theorem dX1_line_57 : decode cX1_line 57 = .ok (.aload_n 0, 1) := by decide +kernel
theorem dX1_line_58 : decode cX1_line 58 = .ok (.dup, 1) := by decide +kernel
theorem dX1_line_59 : decode cX1_line 59 = .ok (.getfield 39, 3) := by decide +kernel
theorem dX1_line_62 : decode cX1_line 62 = .ok (.iconst 1, 1) := by decide +kernel
theorem dX1_line_63 : decode cX1_line 63 = .ok (.iadd, 1) := by decide +kernel
theorem dX1_line_64 : decode cX1_line 64 = .ok (.putfield 39, 3) := by decide +kernel
theorem dX1_line_67 : decode cX1_line 67 = .ok (.aload_n 0, 1) := by decide +kernel
theorem dX1_line_68 : decode cX1_line 68 = .ok (.iconst 0, 1) := by decide +kernel
theorem dX1_line_69 : decode cX1_line 69 = .ok (.putfield 42, 3) := by decide +kernel
theorem dX1_line_72 : decode cX1_line 72 = .ok (.aload_n 0, 1) := by decide +kernel
theorem dX1_line_73 : decode cX1_line 73 = .ok (.getfield 39, 3) := by decide +kernel
theorem dX1_line_76 : decode cX1_line 76 = .ok (.iconst 1, 1) := by decide +kernel
theorem dX1_line_77 : decode cX1_line 77 = .ok (.isub, 1) := by decide +kernel
theorem dX1_line_78 : decode cX1_line 78 = .ok (.ireturn, 1) := by decide +kernel
theorem dX1_form_0 : decode cX1_form 0 = .ok (.iload_n 1, 1) := by decide +kernel
theorem dX1_form_1 : decode cX1_form 1 = .ok (.iconst 1, 1) := by decide +kernel
theorem dX1_form_2 : decode cX1_form 2 = .ok (.if_icmp .lt 33, 3) := by decide +kernel
theorem dX1_form_5 : decode cX1_form 5 = .ok (.iload_n 1, 1) := by decide +kernel
theorem dX1_form_6 : decode cX1_form 6 = .ok (.bipush 64, 2) := by decide +kernel
theorem dX1_form_8 : decode cX1_form 8 = .ok (.if_icmp .gt 27, 3) := by decide +kernel
theorem dX1_form_11 : decode cX1_form 11 = .ok (.iload_n 2, 1) := by decide +kernel
theorem dX1_form_12 : decode cX1_form 12 = .ok (.iconst 1, 1) := by decide +kernel
theorem dX1_form_13 : decode cX1_form 13 = .ok (.if_icmp .lt 22, 3) := by decide +kernel
theorem dX1_form_16 : decode cX1_form 16 = .ok (.iload_n 2, 1) := by decide +kernel
theorem dX1_form_17 : decode cX1_form 17 = .ok (.bipush 32, 2) := by decide +kernel
theorem dX1_form_19 : decode cX1_form 19 = .ok (.if_icmp .gt 16, 3) := by decide +kernel
theorem dX1_form_22 : decode cX1_form 22 = .ok (.iload_n 3, 1) := by decide +kernel
theorem dX1_form_23 : decode cX1_form 23 = .ok (.ifCond .lt 12, 3) := by decide +kernel
theorem dX1_form_26 : decode cX1_form 26 = .ok (.iload_n 3, 1) := by decide +kernel
theorem dX1_form_27 : decode cX1_form 27 = .ok (.iconst 2, 1) := by decide +kernel
theorem dX1_form_28 : decode cX1_form 28 = .ok (.if_icmp .gt 7, 3) := by decide +kernel
theorem dX1_form_31 : decode cX1_form 31 = .ok (.iconst 1, 1) := by decide +kernel
theorem dX1_form_32 : decode cX1_form 32 = .ok (.goto 4, 3) := by decide +kernel
theorem dX1_form_35 : decode cX1_form 35 = .ok (.iconst 0, 1) := by decide +kernel
theorem dX1_form_36 : decode cX1_form 36 = .ok (.istore 4, 2) := by decide +kernel
theorem dX1_form_38 : decode cX1_form 38 = .ok (.aload_n 0, 1) := by decide +kernel
theorem dX1_form_39 : decode cX1_form 39 = .ok (.iload 4, 2) := by decide +kernel
theorem dX1_form_41 : decode cX1_form 41 = .ok (.ifCond .ne 7, 3) := by decide +kernel
theorem dX1_form_44 : decode cX1_form 44 = .ok (.iconst 1, 1) := by decide +kernel
theorem dX1_form_45 : decode cX1_form 45 = .ok (.goto 30, 3) := by decide +kernel
theorem dX1_form_48 : decode cX1_form 48 = .ok (.aload_n 0, 1) := by decide +kernel
theorem dX1_form_49 : decode cX1_form 49 = .ok (.getfield 39, 3) := by decide +kernel
theorem dX1_form_52 : decode cX1_form 52 = .ok (.ifCond .eq 18, 3) := by decide +kernel
theorem dX1_form_55 : decode cX1_form 55 = .ok (.aload_n 0, 1) := by decide +kernel
theorem dX1_form_56 : decode cX1_form 56 = .ok (.getfield 9, 3) := by decide +kernel
theorem dX1_form_59 : decode cX1_form 59 = .ok (.aload_n 0, 1) := by decide +kernel
theorem dX1_form_60 : decode cX1_form 60 = .ok (.getfield 39, 3) := by decide +kernel
theorem dX1_form_63 : decode cX1_form 63 = .ok (.iconst 1, 1) := by decide +kernel
theorem dX1_form_64 : decode cX1_form 64 = .ok (.isub, 1) := by decide +kernel
theorem dX1_form_65 : decode cX1_form 65 = .ok (.iaload, 1) := by decide +kernel
theorem dX1_form_66 : decode cX1_form 66 = .ok (.iconst 4, 1) := by decide +kernel
theorem dX1_form_67 : decode cX1_form 67 = .ok (.if_icmp .ne 7, 3) := by decide +kernel
theorem dX1_form_70 : decode cX1_form 70 = .ok (.iconst 2, 1) := by decide +kernel
theorem dX1_form_71 : decode cX1_form 71 = .ok (.goto 4, 3) := by decide +kernel
theorem dX1_form_74 : decode cX1_form 74 = .ok (.iconst 0, 1) := by decide +kernel
theorem dX1_form_75 : decode cX1_form 75 = .ok (.putfield 35, 3) := by decide +kernel
theorem dX1_form_78 : decode cX1_form 78 = .ok (.aload_n 0, 1) := by decide +kernel
theorem dX1_form_79 : decode cX1_form 79 = .ok (.getfield 35, 3) := by decide +kernel
theorem dX1_form_82 : decode cX1_form 82 = .ok (.ifCond .le 5, 3) := by decide +kernel
theorem dX1_form_85 : decode cX1_form 85 = .ok (.iconst 0, 1) := by decide +kernel
theorem dX1_form_86 : decode cX1_form 86 = .ok (.ireturn, 1) := by decide +kernel
theorem dX1_form_87 : decode cX1_form 87 = .ok (.aload_n 0, 1) := by decide +kernel
theorem dX1_form_88 : decode cX1_form 88 = .ok (.getfield 39, 3) := by decide +kernel
theorem dX1_form_91 : decode cX1_form 91 = .ok (.iconst 1, 1) := by decide +kernel
theorem dX1_form_92 : decode cX1_form 92 = .ok (.isub, 1) := by decide +kernel
theorem dX1_form_93 : decode cX1_form 93 = .ok (.istore 5, 2) := by decide +kernel
theorem dX1_form_95 : decode cX1_form 95 = .ok (.iconst 4, 1) := by decide +kernel
theorem dX1_form_96 : decode cX1_form 96 = .ok (.iload 5, 2) := by decide +kernel
theorem dX1_form_98 : decode cX1_form 98 = .ok (.imul, 1) := by decide +kernel
theorem dX1_form_99 : decode cX1_form 99 = .ok (.aload_n 0, 1) := by decide +kernel
theorem dX1_form_100 : decode cX1_form 100 = .ok (.getfield 9, 3) := by decide +kernel
theorem dX1_form_103 : decode cX1_form 103 = .ok (.iload 5, 2) := by decide +kernel
theorem dX1_form_105 : decode cX1_form 105 = .ok (.iaload, 1) := by decide +kernel
theorem dX1_form_106 : decode cX1_form 106 = .ok (.iadd, 1) := by decide +kernel
theorem dX1_form_107 : decode cX1_form 107 = .ok (.istore 6, 2) := by decide +kernel
theorem dX1_form_109 : decode cX1_form 109 = .ok (.aload_n 0, 1) := by decide +kernel
theorem dX1_form_110 : decode cX1_form 110 = .ok (.getfield 13, 3) := by decide +kernel
theorem dX1_form_113 : decode cX1_form 113 = .ok (.iload 6, 2) := by decide +kernel
theorem dX1_form_115 : decode cX1_form 115 = .ok (.iload_n 1, 1) := by decide +kernel
theorem dX1_form_116 : decode cX1_form 116 = .ok (.iastore, 1) := by decide +kernel
theorem dX1_form_117 : decode cX1_form 117 = .ok (.aload_n 0, 1) := by decide +kernel
theorem dX1_form_118 : decode cX1_form 118 = .ok (.getfield 16, 3) := by decide +kernel
theorem dX1_form_121 : decode cX1_form 121 = .ok (.iload 6, 2) := by decide +kernel
theorem dX1_form_123 : decode cX1_form 123 = .ok (.iload_n 2, 1) := by decide +kernel
theorem dX1_form_124 : decode cX1_form 124 = .ok (.iastore, 1) := by decide +kernel
theorem dX1_form_125 : decode cX1_form 125 = .ok (.aload_n 0, 1) := by decide +kernel
theorem dX1_form_126 : decode cX1_form 126 = .ok (.getfield 19, 3) := by decide +kernel
theorem dX1_form_129 : decode cX1_form 129 = .ok (.iload 6, 2) := by decide +kernel
theorem dX1_form_131 : decode cX1_form 131 = .ok (.iload_n 3, 1) := by decide +kernel
theorem dX1_form_132 : decode cX1_form 132 = .ok (.iastore, 1) := by decide +kernel
theorem dX1_form_133 : decode cX1_form 133 = .ok (.aload_n 0, 1) := by decide +kernel
theorem dX1_form_134 : decode cX1_form 134 = .ok (.getfield 9, 3) := by decide +kernel
theorem dX1_form_137 : decode cX1_form 137 = .ok (.iload 5, 2) := by decide +kernel
theorem dX1_form_139 : decode cX1_form 139 = .ok (.dup2, 1) := by decide +kernel
theorem dX1_form_140 : decode cX1_form 140 = .ok (.iaload, 1) := by decide +kernel
theorem dX1_form_141 : decode cX1_form 141 = .ok (.iconst 1, 1) := by decide +kernel
theorem dX1_form_142 : decode cX1_form 142 = .ok (.iadd, 1) := by decide +kernel
theorem dX1_form_143 : decode cX1_form 143 = .ok (.iastore, 1) := by decide +kernel
theorem dX1_form_144 : decode cX1_form 144 = .ok (.aload_n 0, 1) := by decide +kernel
theorem dX1_form_145 : decode cX1_form 145 = .ok (.iconst 0, 1) := by decide +kernel
theorem dX1_form_146 : decode cX1_form 146 = .ok (.putfield 42, 3) := by decide +kernel
theorem dX1_form_149 : decode cX1_form 149 = .ok (.aload_n 0, 1) := by decide +kernel
theorem dX1_form_150 : decode cX1_form 150 = .ok (.getfield 9, 3) := by decide +kernel
theorem dX1_form_153 : decode cX1_form 153 = .ok (.iload 5, 2) := by decide +kernel
theorem dX1_form_155 : decode cX1_form 155 = .ok (.iaload, 1) := by decide +kernel
theorem dX1_form_156 : decode cX1_form 156 = .ok (.ireturn, 1) := by decide +kernel
theorem dX1_aim_0 : decode cX1_aim 0 = .ok (.aload_n 0, 1) := by decide +kernel
theorem dX1_aim_1 : decode cX1_aim 1 = .ok (.iload_n 1, 1) := by decide +kernel
theorem dX1_aim_2 : decode cX1_aim 2 = .ok (.ifCond .lt 23, 3) := by decide +kernel
theorem dX1_aim_5 : decode cX1_aim 5 = .ok (.iload_n 1, 1) := by decide +kernel
theorem dX1_aim_6 : decode cX1_aim 6 = .ok (.aload_n 0, 1) := by decide +kernel
theorem dX1_aim_7 : decode cX1_aim 7 = .ok (.getfield 39, 3) := by decide +kernel
theorem dX1_aim_10 : decode cX1_aim 10 = .ok (.if_icmp .ge 15, 3) := by decide +kernel
theorem dX1_aim_13 : decode cX1_aim 13 = .ok (.iload_n 2, 1) := by decide +kernel
theorem dX1_aim_14 : decode cX1_aim 14 = .ok (.ifCond .lt 11, 3) := by decide +kernel
theorem dX1_aim_17 : decode cX1_aim 17 = .ok (.iload_n 2, 1) := by decide +kernel
theorem dX1_aim_18 : decode cX1_aim 18 = .ok (.aload_n 0, 1) := by decide +kernel
theorem dX1_aim_19 : decode cX1_aim 19 = .ok (.getfield 39, 3) := by decide +kernel
theorem dX1_aim_22 : decode cX1_aim 22 = .ok (.if_icmp .le 7, 3) := by decide +kernel
theorem dX1_aim_25 : decode cX1_aim 25 = .ok (.iconst 1, 1) := by decide +kernel
theorem dX1_aim_26 : decode cX1_aim 26 = .ok (.goto 4, 3) := by decide +kernel
theorem dX1_aim_29 : decode cX1_aim 29 = .ok (.iconst 0, 1) := by decide +kernel
theorem dX1_aim_30 : decode cX1_aim 30 = .ok (.putfield 35, 3) := by decide +kernel
theorem dX1_aim_33 : decode cX1_aim 33 = .ok (.aload_n 0, 1) := by decide +kernel
theorem dX1_aim_34 : decode cX1_aim 34 = .ok (.getfield 35, 3) := by decide +kernel
theorem dX1_aim_37 : decode cX1_aim 37 = .ok (.ifCond .le 4, 3) := by decide +kernel
theorem dX1_aim_40 : decode cX1_aim 40 = .ok (.return_, 1) := by decide +kernel
theorem dX1_aim_41 : decode cX1_aim 41 = .ok (.aload_n 0, 1) := by decide +kernel
theorem dX1_aim_42 : decode cX1_aim 42 = .ok (.getfield 22, 3) := by decide +kernel
theorem dX1_aim_45 : decode cX1_aim 45 = .ok (.iload_n 1, 1) := by decide +kernel
theorem dX1_aim_46 : decode cX1_aim 46 = .ok (.iload_n 2, 1) := by decide +kernel
theorem dX1_aim_47 : decode cX1_aim 47 = .ok (.iastore, 1) := by decide +kernel
theorem dX1_aim_48 : decode cX1_aim 48 = .ok (.aload_n 0, 1) := by decide +kernel
theorem dX1_aim_49 : decode cX1_aim 49 = .ok (.getfield 25, 3) := by decide +kernel
theorem dX1_aim_52 : decode cX1_aim 52 = .ok (.iload_n 1, 1) := by decide +kernel
theorem dX1_aim_53 : decode cX1_aim 53 = .ok (.iload_n 3, 1) := by decide +kernel
theorem dX1_aim_54 : decode cX1_aim 54 = .ok (.iastore, 1) := by decide +kernel
theorem dX1_aim_55 : decode cX1_aim 55 = .ok (.aload_n 0, 1) := by decide +kernel
theorem dX1_aim_56 : decode cX1_aim 56 = .ok (.iconst 0, 1) := by decide +kernel
theorem dX1_aim_57 : decode cX1_aim 57 = .ok (.putfield 42, 3) := by decide +kernel
theorem dX1_aim_60 : decode cX1_aim 60 = .ok (.return_, 1) := by decide +kernel
