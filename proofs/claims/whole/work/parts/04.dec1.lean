theorem dX0_init_0 : decode cX0_init 0 = .ok (.aload_n 0, 1) := by decide +kernel
theorem dX0_init_1 : decode cX0_init 1 = .ok (.invokespecial 3, 3) := by decide +kernel
theorem dX0_init_4 : decode cX0_init 4 = .ok (.aload_n 0, 1) := by decide +kernel
theorem dX0_init_5 : decode cX0_init 5 = .ok (.sipush 480, 3) := by decide +kernel
theorem dX0_init_8 : decode cX0_init 8 = .ok (.newarray .int, 2) := by decide +kernel
theorem dX0_init_10 : decode cX0_init 10 = .ok (.putfield 9, 3) := by decide +kernel
theorem dX0_init_13 : decode cX0_init 13 = .ok (.aload_n 0, 1) := by decide +kernel
theorem dX0_init_14 : decode cX0_init 14 = .ok (.sipush 480, 3) := by decide +kernel
theorem dX0_init_17 : decode cX0_init 17 = .ok (.newarray .int, 2) := by decide +kernel
theorem dX0_init_19 : decode cX0_init 19 = .ok (.putfield 13, 3) := by decide +kernel
theorem dX0_init_22 : decode cX0_init 22 = .ok (.aload_n 0, 1) := by decide +kernel
theorem dX0_init_23 : decode cX0_init 23 = .ok (.sipush 480, 3) := by decide +kernel
theorem dX0_init_26 : decode cX0_init 26 = .ok (.newarray .int, 2) := by decide +kernel
theorem dX0_init_28 : decode cX0_init 28 = .ok (.putfield 16, 3) := by decide +kernel
theorem dX0_init_31 : decode cX0_init 31 = .ok (.aload_n 0, 1) := by decide +kernel
theorem dX0_init_32 : decode cX0_init 32 = .ok (.bipush 120, 2) := by decide +kernel
theorem dX0_init_34 : decode cX0_init 34 = .ok (.newarray .int, 2) := by decide +kernel
theorem dX0_init_36 : decode cX0_init 36 = .ok (.putfield 19, 3) := by decide +kernel
theorem dX0_init_39 : decode cX0_init 39 = .ok (.aload_n 0, 1) := by decide +kernel
theorem dX0_init_40 : decode cX0_init 40 = .ok (.bipush 120, 2) := by decide +kernel
theorem dX0_init_42 : decode cX0_init 42 = .ok (.newarray .int, 2) := by decide +kernel
theorem dX0_init_44 : decode cX0_init 44 = .ok (.putfield 22, 3) := by decide +kernel
theorem dX0_init_47 : decode cX0_init 47 = .ok (.aload_n 0, 1) := by decide +kernel
theorem dX0_init_48 : decode cX0_init 48 = .ok (.bipush 120, 2) := by decide +kernel
theorem dX0_init_50 : decode cX0_init 50 = .ok (.newarray .int, 2) := by decide +kernel
theorem dX0_init_52 : decode cX0_init 52 = .ok (.putfield 25, 3) := by decide +kernel
theorem dX0_init_55 : decode cX0_init 55 = .ok (.aload_n 0, 1) := by decide +kernel
theorem dX0_init_56 : decode cX0_init 56 = .ok (.bipush 120, 2) := by decide +kernel
theorem dX0_init_58 : decode cX0_init 58 = .ok (.newarray .int, 2) := by decide +kernel
theorem dX0_init_60 : decode cX0_init 60 = .ok (.putfield 28, 3) := by decide +kernel
theorem dX0_init_63 : decode cX0_init 63 = .ok (.aload_n 0, 1) := by decide +kernel
theorem dX0_init_64 : decode cX0_init 64 = .ok (.bipush 121, 2) := by decide +kernel
theorem dX0_init_66 : decode cX0_init 66 = .ok (.newarray .int, 2) := by decide +kernel
theorem dX0_init_68 : decode cX0_init 68 = .ok (.putfield 31, 3) := by decide +kernel
theorem dX0_init_71 : decode cX0_init 71 = .ok (.aload_n 0, 1) := by decide +kernel
theorem dX0_init_72 : decode cX0_init 72 = .ok (.iconst 0, 1) := by decide +kernel
theorem dX0_init_73 : decode cX0_init 73 = .ok (.putfield 34, 3) := by decide +kernel
theorem dX0_init_76 : decode cX0_init 76 = .ok (.aload_n 0, 1) := by decide +kernel
theorem dX0_init_77 : decode cX0_init 77 = .ok (.iconst 0, 1) := by decide +kernel
theorem dX0_init_78 : decode cX0_init 78 = .ok (.putfield 38, 3) := by decide +kernel
theorem dX0_init_81 : decode cX0_init 81 = .ok (.return_, 1) := by decide +kernel
theorem dX0_clear_0 : decode cX0_clear 0 = .ok (.aload_n 0, 1) := by decide +kernel
theorem dX0_clear_1 : decode cX0_clear 1 = .ok (.getfield 34, 3) := by decide +kernel
theorem dX0_clear_4 : decode cX0_clear 4 = .ok (.istore_n 1, 1) := by decide +kernel
theorem dX0_clear_5 : decode cX0_clear 5 = .ok (.aload_n 0, 1) := by decide +kernel
theorem dX0_clear_6 : decode cX0_clear 6 = .ok (.iconst 0, 1) := by decide +kernel
theorem dX0_clear_7 : decode cX0_clear 7 = .ok (.putfield 34, 3) := by decide +kernel
theorem dX0_clear_10 : decode cX0_clear 10 = .ok (.aload_n 0, 1) := by decide +kernel
theorem dX0_clear_11 : decode cX0_clear 11 = .ok (.iconst 0, 1) := by decide +kernel
theorem dX0_clear_12 : decode cX0_clear 12 = .ok (.putfield 38, 3) := by decide +kernel
theorem dX0_clear_15 : decode cX0_clear 15 = .ok (.iload_n 1, 1) := by decide +kernel
theorem dX0_clear_16 : decode cX0_clear 16 = .ok (.ireturn, 1) := by decide +kernel
theorem dX0_line_0 : decode cX0_line 0 = .ok (.aload_n 0, 1) := by decide +kernel
theorem dX0_line_1 : decode cX0_line 1 = .ok (.getfield 34, 3) := by decide +kernel
theorem dX0_line_4 : decode cX0_line 4 = .ok (.bipush 120, 2) := by decide +kernel
theorem dX0_line_6 : decode cX0_line 6 = .ok (.if_icmp .lt 13, 3) := by decide +kernel
theorem dX0_line_9 : decode cX0_line 9 = .ok (.new 42, 3) := by decide +kernel
theorem dX0_line_12 : decode cX0_line 12 = .ok (.dup, 1) := by decide +kernel
theorem dX0_line_13 : decode cX0_line 13 = .ok (.ldc 44, 2) := by decide +kernel
theorem dX0_line_15 : decode cX0_line 15 = .ok (.invokespecial 46, 3) := by decide +kernel
theorem dX0_line_18 : decode cX0_line 18 = .ok (.athrow, 1) := by decide +kernel
theorem dX0_line_19 : decode cX0_line 19 = .ok (.aload_n 0, 1) := by decide +kernel
theorem dX0_line_20 : decode cX0_line 20 = .ok (.getfield 34, 3) := by decide +kernel
theorem dX0_line_23 : decode cX0_line 23 = .ok (.istore_n 1, 1) := by decide +kernel
theorem dX0_line_24 : decode cX0_line 24 = .ok (.aload_n 0, 1) := by decide +kernel
theorem dX0_line_25 : decode cX0_line 25 = .ok (.getfield 19, 3) := by decide +kernel
theorem dX0_line_28 : decode cX0_line 28 = .ok (.iload_n 1, 1) := by decide +kernel
theorem dX0_line_29 : decode cX0_line 29 = .ok (.iconst 0, 1) := by decide +kernel
theorem dX0_line_30 : decode cX0_line 30 = .ok (.iastore, 1) := by decide +kernel
theorem dX0_line_31 : decode cX0_line 31 = .ok (.aload_n 0, 1) := by decide +kernel
theorem dX0_line_32 : decode cX0_line 32 = .ok (.getfield 25, 3) := by decide +kernel
theorem dX0_line_35 : decode cX0_line 35 = .ok (.iload_n 1, 1) := by decide +kernel
theorem dX0_line_36 : decode cX0_line 36 = .ok (.iconst 0, 1) := by decide +kernel
theorem dX0_line_37 : decode cX0_line 37 = .ok (.iastore, 1) := by decide +kernel
theorem dX0_line_38 : decode cX0_line 38 = .ok (.aload_n 0, 1) := by decide +kernel
theorem dX0_line_39 : decode cX0_line 39 = .ok (.getfield 22, 3) := by decide +kernel
theorem dX0_line_42 : decode cX0_line 42 = .ok (.iload_n 1, 1) := by decide +kernel
theorem dX0_line_43 : decode cX0_line 43 = .ok (.iconst 0, 1) := by decide +kernel
theorem dX0_line_44 : decode cX0_line 44 = .ok (.iastore, 1) := by decide +kernel
theorem dX0_line_45 : decode cX0_line 45 = .ok (.aload_n 0, 1) := by decide +kernel
theorem dX0_line_46 : decode cX0_line 46 = .ok (.iload_n 1, 1) := by decide +kernel
theorem dX0_line_47 : decode cX0_line 47 = .ok (.iconst 1, 1) := by decide +kernel
theorem dX0_line_48 : decode cX0_line 48 = .ok (.iadd, 1) := by decide +kernel
theorem dX0_line_49 : decode cX0_line 49 = .ok (.putfield 34, 3) := by decide +kernel
theorem dX0_line_52 : decode cX0_line 52 = .ok (.aload_n 0, 1) := by decide +kernel
theorem dX0_line_53 : decode cX0_line 53 = .ok (.iconst 0, 1) := by decide +kernel
theorem dX0_line_54 : decode cX0_line 54 = .ok (.putfield 38, 3) := by decide +kernel
theorem dX0_line_57 : decode cX0_line 57 = .ok (.iload_n 1, 1) := by decide +kernel
theorem dX0_line_58 : decode cX0_line 58 = .ok (.ireturn, 1) := by decide +kernel
theorem dX0_form_0 : decode cX0_form 0 = .ok (.iload_n 1, 1) := by decide +kernel
theorem dX0_form_1 : decode cX0_form 1 = .ok (.iload_n 2, 1) := by decide +kernel
theorem dX0_form_2 : decode cX0_form 2 = .ok (.iload_n 3, 1) := by decide +kernel
theorem dX0_form_3 : decode cX0_form 3 = .ok (.invokestatic 49, 3) := by decide +kernel
theorem dX0_form_6 : decode cX0_form 6 = .ok (.ifCond .ne 13, 3) := by decide +kernel
theorem dX0_form_9 : decode cX0_form 9 = .ok (.new 53, 3) := by decide +kernel
theorem dX0_form_12 : decode cX0_form 12 = .ok (.dup, 1) := by decide +kernel
theorem dX0_form_13 : decode cX0_form 13 = .ok (.ldc 55, 2) := by decide +kernel
theorem dX0_form_15 : decode cX0_form 15 = .ok (.invokespecial 57, 3) := by decide +kernel
theorem dX0_form_18 : decode cX0_form 18 = .ok (.athrow, 1) := by decide +kernel
theorem dX0_form_19 : decode cX0_form 19 = .ok (.aload_n 0, 1) := by decide +kernel
theorem dX0_form_20 : decode cX0_form 20 = .ok (.getfield 34, 3) := by decide +kernel
theorem dX0_form_23 : decode cX0_form 23 = .ok (.ifCond .ne 13, 3) := by decide +kernel
theorem dX0_form_26 : decode cX0_form 26 = .ok (.new 42, 3) := by decide +kernel
theorem dX0_form_29 : decode cX0_form 29 = .ok (.dup, 1) := by decide +kernel
theorem dX0_form_30 : decode cX0_form 30 = .ok (.ldc 58, 2) := by decide +kernel
theorem dX0_form_32 : decode cX0_form 32 = .ok (.invokespecial 46, 3) := by decide +kernel
theorem dX0_form_35 : decode cX0_form 35 = .ok (.athrow, 1) := by decide +kernel
theorem dX0_form_36 : decode cX0_form 36 = .ok (.aload_n 0, 1) := by decide +kernel
theorem dX0_form_37 : decode cX0_form 37 = .ok (.getfield 34, 3) := by decide +kernel
theorem dX0_form_40 : decode cX0_form 40 = .ok (.iconst 1, 1) := by decide +kernel
theorem dX0_form_41 : decode cX0_form 41 = .ok (.isub, 1) := by decide +kernel
theorem dX0_form_42 : decode cX0_form 42 = .ok (.istore 4, 2) := by decide +kernel
theorem dX0_form_44 : decode cX0_form 44 = .ok (.aload_n 0, 1) := by decide +kernel
theorem dX0_form_45 : decode cX0_form 45 = .ok (.getfield 19, 3) := by decide +kernel
theorem dX0_form_48 : decode cX0_form 48 = .ok (.iload 4, 2) := by decide +kernel
theorem dX0_form_50 : decode cX0_form 50 = .ok (.iaload, 1) := by decide +kernel
theorem dX0_form_51 : decode cX0_form 51 = .ok (.iconst 4, 1) := by decide +kernel
theorem dX0_form_52 : decode cX0_form 52 = .ok (.if_icmp .lt 13, 3) := by decide +kernel
theorem dX0_form_55 : decode cX0_form 55 = .ok (.new 42, 3) := by decide +kernel
theorem dX0_form_58 : decode cX0_form 58 = .ok (.dup, 1) := by decide +kernel
theorem dX0_form_59 : decode cX0_form 59 = .ok (.ldc 60, 2) := by decide +kernel
theorem dX0_form_61 : decode cX0_form 61 = .ok (.invokespecial 46, 3) := by decide +kernel
theorem dX0_form_64 : decode cX0_form 64 = .ok (.athrow, 1) := by decide +kernel
theorem dX0_form_65 : decode cX0_form 65 = .ok (.iload 4, 2) := by decide +kernel
theorem dX0_form_67 : decode cX0_form 67 = .ok (.aload_n 0, 1) := by decide +kernel
theorem dX0_form_68 : decode cX0_form 68 = .ok (.getfield 19, 3) := by decide +kernel
theorem dX0_form_71 : decode cX0_form 71 = .ok (.iload 4, 2) := by decide +kernel
theorem dX0_form_73 : decode cX0_form 73 = .ok (.iaload, 1) := by decide +kernel
theorem dX0_form_74 : decode cX0_form 74 = .ok (.invokestatic 62, 3) := by decide +kernel
theorem dX0_form_77 : decode cX0_form 77 = .ok (.istore 5, 2) := by decide +kernel
theorem dX0_form_79 : decode cX0_form 79 = .ok (.aload_n 0, 1) := by decide +kernel
theorem dX0_form_80 : decode cX0_form 80 = .ok (.getfield 9, 3) := by decide +kernel
theorem dX0_form_83 : decode cX0_form 83 = .ok (.iload 5, 2) := by decide +kernel
theorem dX0_form_85 : decode cX0_form 85 = .ok (.iload_n 1, 1) := by decide +kernel
theorem dX0_form_86 : decode cX0_form 86 = .ok (.iastore, 1) := by decide +kernel
theorem dX0_form_87 : decode cX0_form 87 = .ok (.aload_n 0, 1) := by decide +kernel
theorem dX0_form_88 : decode cX0_form 88 = .ok (.getfield 13, 3) := by decide +kernel
theorem dX0_form_91 : decode cX0_form 91 = .ok (.iload 5, 2) := by decide +kernel
theorem dX0_form_93 : decode cX0_form 93 = .ok (.iload_n 2, 1) := by decide +kernel
theorem dX0_form_94 : decode cX0_form 94 = .ok (.iastore, 1) := by decide +kernel
theorem dX0_form_95 : decode cX0_form 95 = .ok (.aload_n 0, 1) := by decide +kernel
theorem dX0_form_96 : decode cX0_form 96 = .ok (.getfield 16, 3) := by decide +kernel
theorem dX0_form_99 : decode cX0_form 99 = .ok (.iload 5, 2) := by decide +kernel
theorem dX0_form_101 : decode cX0_form 101 = .ok (.iload_n 3, 1) := by decide +kernel
theorem dX0_form_102 : decode cX0_form 102 = .ok (.iastore, 1) := by decide +kernel
theorem dX0_form_103 : decode cX0_form 103 = .ok (.aload_n 0, 1) := by decide +kernel
theorem dX0_form_104 : decode cX0_form 104 = .ok (.getfield 19, 3) := by decide +kernel
theorem dX0_form_107 : decode cX0_form 107 = .ok (.iload 4, 2) := by decide +kernel
theorem dX0_form_109 : decode cX0_form 109 = .ok (.dup2, 1) := by decide +kernel
theorem dX0_form_110 : decode cX0_form 110 = .ok (.iaload, 1) := by decide +kernel
theorem dX0_form_111 : decode cX0_form 111 = .ok (.iconst 1, 1) := by decide +kernel
theorem dX0_form_112 : decode cX0_form 112 = .ok (.iadd, 1) := by decide +kernel
theorem dX0_form_113 : decode cX0_form 113 = .ok (.iastore, 1) := by decide +kernel
theorem dX0_form_114 : decode cX0_form 114 = .ok (.aload_n 0, 1) := by decide +kernel
theorem dX0_form_115 : decode cX0_form 115 = .ok (.iconst 0, 1) := by decide +kernel
theorem dX0_form_116 : decode cX0_form 116 = .ok (.putfield 38, 3) := by decide +kernel
theorem dX0_form_119 : decode cX0_form 119 = .ok (.aload_n 0, 1) := by decide +kernel
theorem dX0_form_120 : decode cX0_form 120 = .ok (.getfield 19, 3) := by decide +kernel
theorem dX0_form_123 : decode cX0_form 123 = .ok (.iload 4, 2) := by decide +kernel
theorem dX0_form_125 : decode cX0_form 125 = .ok (.iaload, 1) := by decide +kernel
theorem dX0_form_126 : decode cX0_form 126 = .ok (.ireturn, 1) := by decide +kernel
theorem dX0_isForm_0 : decode cX0_isForm 0 = .ok (.iload_n 0, 1) := by decide +kernel
theorem dX0_isForm_1 : decode cX0_isForm 1 = .ok (.iconst 1, 1) := by decide +kernel
theorem dX0_isForm_2 : decode cX0_isForm 2 = .ok (.if_icmp .lt 33, 3) := by decide +kernel
theorem dX0_isForm_5 : decode cX0_isForm 5 = .ok (.iload_n 0, 1) := by decide +kernel
theorem dX0_isForm_6 : decode cX0_isForm 6 = .ok (.bipush 64, 2) := by decide +kernel
theorem dX0_isForm_8 : decode cX0_isForm 8 = .ok (.if_icmp .gt 27, 3) := by decide +kernel
theorem dX0_isForm_11 : decode cX0_isForm 11 = .ok (.iload_n 1, 1) := by decide +kernel
theorem dX0_isForm_12 : decode cX0_isForm 12 = .ok (.iconst 1, 1) := by decide +kernel
theorem dX0_isForm_13 : decode cX0_isForm 13 = .ok (.if_icmp .lt 22, 3) := by decide +kernel
theorem dX0_isForm_16 : decode cX0_isForm 16 = .ok (.iload_n 1, 1) := by decide +kernel
theorem dX0_isForm_17 : decode cX0_isForm 17 = .ok (.bipush 32, 2) := by decide +kernel
theorem dX0_isForm_19 : decode cX0_isForm 19 = .ok (.if_icmp .gt 16, 3) := by decide +kernel
theorem dX0_isForm_22 : decode cX0_isForm 22 = .ok (.iload_n 2, 1) := by decide +kernel
theorem dX0_isForm_23 : decode cX0_isForm 23 = .ok (.ifCond .lt 12, 3) := by decide +kernel
theorem dX0_isForm_26 : decode cX0_isForm 26 = .ok (.iload_n 2, 1) := by decide +kernel
theorem dX0_isForm_27 : decode cX0_isForm 27 = .ok (.iconst 2, 1) := by decide +kernel
theorem dX0_isForm_28 : decode cX0_isForm 28 = .ok (.if_icmp .gt 7, 3) := by decide +kernel
theorem dX0_isForm_31 : decode cX0_isForm 31 = .ok (.iconst 1, 1) := by decide +kernel
theorem dX0_isForm_32 : decode cX0_isForm 32 = .ok (.goto 4, 3) := by decide +kernel
theorem dX0_isForm_35 : decode cX0_isForm 35 = .ok (.iconst 0, 1) := by decide +kernel
theorem dX0_isForm_36 : decode cX0_isForm 36 = .ok (.ireturn, 1) := by decide +kernel
theorem dX0_placeOf_0 : decode cX0_placeOf 0 = .ok (.iload_n 0, 1) := by decide +kernel
theorem dX0_placeOf_1 : decode cX0_placeOf 1 = .ok (.iconst 4, 1) := by decide +kernel
theorem dX0_placeOf_2 : decode cX0_placeOf 2 = .ok (.imul, 1) := by decide +kernel
theorem dX0_placeOf_3 : decode cX0_placeOf 3 = .ok (.iload_n 1, 1) := by decide +kernel
theorem dX0_placeOf_4 : decode cX0_placeOf 4 = .ok (.iadd, 1) := by decide +kernel
theorem dX0_placeOf_5 : decode cX0_placeOf 5 = .ok (.ireturn, 1) := by decide +kernel
theorem dX0_aim_0 : decode cX0_aim 0 = .ok (.aload_n 0, 1) := by decide +kernel
theorem dX0_aim_1 : decode cX0_aim 1 = .ok (.iload_n 1, 1) := by decide +kernel
theorem dX0_aim_2 : decode cX0_aim 2 = .ok (.invokevirtual 66, 3) := by decide +kernel
theorem dX0_aim_5 : decode cX0_aim 5 = .ok (.ifCond .eq 11, 3) := by decide +kernel
theorem dX0_aim_8 : decode cX0_aim 8 = .ok (.aload_n 0, 1) := by decide +kernel
theorem dX0_aim_9 : decode cX0_aim 9 = .ok (.iload_n 2, 1) := by decide +kernel
theorem dX0_aim_10 : decode cX0_aim 10 = .ok (.invokevirtual 70, 3) := by decide +kernel
theorem dX0_aim_13 : decode cX0_aim 13 = .ok (.ifCond .ne 13, 3) := by decide +kernel
theorem dX0_aim_16 : decode cX0_aim 16 = .ok (.new 73, 3) := by decide +kernel
theorem dX0_aim_19 : decode cX0_aim 19 = .ok (.dup, 1) := by decide +kernel
theorem dX0_aim_20 : decode cX0_aim 20 = .ok (.ldc 75, 2) := by decide +kernel
theorem dX0_aim_22 : decode cX0_aim 22 = .ok (.invokespecial 77, 3) := by decide +kernel
theorem dX0_aim_25 : decode cX0_aim 25 = .ok (.athrow, 1) := by decide +kernel
theorem dX0_aim_26 : decode cX0_aim 26 = .ok (.aload_n 0, 1) := by decide +kernel
theorem dX0_aim_27 : decode cX0_aim 27 = .ok (.getfield 25, 3) := by decide +kernel
theorem dX0_aim_30 : decode cX0_aim 30 = .ok (.iload_n 1, 1) := by decide +kernel
theorem dX0_aim_31 : decode cX0_aim 31 = .ok (.iload_n 2, 1) := by decide +kernel
theorem dX0_aim_32 : decode cX0_aim 32 = .ok (.iastore, 1) := by decide +kernel
theorem dX0_aim_33 : decode cX0_aim 33 = .ok (.aload_n 0, 1) := by decide +kernel
theorem dX0_aim_34 : decode cX0_aim 34 = .ok (.getfield 22, 3) := by decide +kernel
theorem dX0_aim_37 : decode cX0_aim 37 = .ok (.iload_n 1, 1) := by decide +kernel
theorem dX0_aim_38 : decode cX0_aim 38 = .ok (.iload_n 3, 1) := by decide +kernel
theorem dX0_aim_39 : decode cX0_aim 39 = .ok (.iastore, 1) := by decide +kernel
theorem dX0_aim_40 : decode cX0_aim 40 = .ok (.aload_n 0, 1) := by decide +kernel
theorem dX0_aim_41 : decode cX0_aim 41 = .ok (.iconst 0, 1) := by decide +kernel
theorem dX0_aim_42 : decode cX0_aim 42 = .ok (.putfield 38, 3) := by decide +kernel
theorem dX0_aim_45 : decode cX0_aim 45 = .ok (.return_, 1) := by decide +kernel
theorem dX0_isLine_0 : decode cX0_isLine 0 = .ok (.iload_n 1, 1) := by decide +kernel
theorem dX0_isLine_1 : decode cX0_isLine 1 = .ok (.ifCond .lt 15, 3) := by decide +kernel
theorem dX0_isLine_4 : decode cX0_isLine 4 = .ok (.iload_n 1, 1) := by decide +kernel
theorem dX0_isLine_5 : decode cX0_isLine 5 = .ok (.aload_n 0, 1) := by decide +kernel
theorem dX0_isLine_6 : decode cX0_isLine 6 = .ok (.getfield 34, 3) := by decide +kernel
theorem dX0_isLine_9 : decode cX0_isLine 9 = .ok (.if_icmp .ge 7, 3) := by decide +kernel
theorem dX0_isLine_12 : decode cX0_isLine 12 = .ok (.iconst 1, 1) := by decide +kernel
theorem dX0_isLine_13 : decode cX0_isLine 13 = .ok (.goto 4, 3) := by decide +kernel
theorem dX0_isLine_16 : decode cX0_isLine 16 = .ok (.iconst 0, 1) := by decide +kernel
theorem dX0_isLine_17 : decode cX0_isLine 17 = .ok (.ireturn, 1) := by decide +kernel
theorem dX0_isLineOrEnd_0 : decode cX0_isLineOrEnd 0 = .ok (.iload_n 1, 1) := by decide +kernel
theorem dX0_isLineOrEnd_1 : decode cX0_isLineOrEnd 1 = .ok (.ifCond .lt 15, 3) := by decide +kernel
theorem dX0_isLineOrEnd_4 : decode cX0_isLineOrEnd 4 = .ok (.iload_n 1, 1) := by decide +kernel
theorem dX0_isLineOrEnd_5 : decode cX0_isLineOrEnd 5 = .ok (.aload_n 0, 1) := by decide +kernel
theorem dX0_isLineOrEnd_6 : decode cX0_isLineOrEnd 6 = .ok (.getfield 34, 3) := by decide +kernel
theorem dX0_isLineOrEnd_9 : decode cX0_isLineOrEnd 9 = .ok (.if_icmp .gt 7, 3) := by decide +kernel
theorem dX0_isLineOrEnd_12 : decode cX0_isLineOrEnd 12 = .ok (.iconst 1, 1) := by decide +kernel
theorem dX0_isLineOrEnd_13 : decode cX0_isLineOrEnd 13 = .ok (.goto 4, 3) := by decide +kernel
theorem dX0_isLineOrEnd_16 : decode cX0_isLineOrEnd 16 = .ok (.iconst 0, 1) := by decide +kernel
theorem dX0_isLineOrEnd_17 : decode cX0_isLineOrEnd 17 = .ok (.ireturn, 1) := by decide +kernel
