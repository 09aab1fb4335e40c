theorem dL_line_0 : decode cL_line 0 = .ok (.aload_n 1, 1) := by decide +kernel
theorem dL_line_1 : decode cL_line 1 = .ok (.iconst 0, 1) := by decide +kernel
theorem dL_line_2 : decode cL_line 2 = .ok (.aload_n 0, 1) := by decide +kernel
theorem dL_line_3 : decode cL_line 3 = .ok (.invokevirtual 7, 3) := by decide +kernel
theorem dL_line_6 : decode cL_line 6 = .ok (.i2l, 1) := by decide +kernel
theorem dL_line_7 : decode cL_line 7 = .ok (.lastore, 1) := by decide +kernel
theorem dL_line_8 : decode cL_line 8 = .ok (.goto 6, 3) := by decide +kernel
theorem dL_line_11 : decode cL_line 11 = .ok (.astore_n 2, 1) := by decide +kernel
theorem dL_line_12 : decode cL_line 12 = .ok (.iconst 1, 1) := by decide +kernel
theorem dL_line_13 : decode cL_line 13 = .ok (.ireturn, 1) := by decide +kernel
theorem dL_line_14 : decode cL_line 14 = .ok (.iconst 0, 1) := by decide +kernel
theorem dL_line_15 : decode cL_line 15 = .ok (.ireturn, 1) := by decide +kernel
theorem dL_form_0 : decode cL_form 0 = .ok (.aload 4, 2) := by decide +kernel
theorem dL_form_2 : decode cL_form 2 = .ok (.iconst 0, 1) := by decide +kernel
theorem dL_form_3 : decode cL_form 3 = .ok (.aload_n 0, 1) := by decide +kernel
theorem dL_form_4 : decode cL_form 4 = .ok (.iload_n 1, 1) := by decide +kernel
theorem dL_form_5 : decode cL_form 5 = .ok (.iload_n 2, 1) := by decide +kernel
theorem dL_form_6 : decode cL_form 6 = .ok (.iload_n 3, 1) := by decide +kernel
theorem dL_form_7 : decode cL_form 7 = .ok (.invokevirtual 15, 3) := by decide +kernel
theorem dL_form_10 : decode cL_form 10 = .ok (.i2l, 1) := by decide +kernel
theorem dL_form_11 : decode cL_form 11 = .ok (.lastore, 1) := by decide +kernel
theorem dL_form_12 : decode cL_form 12 = .ok (.goto 11, 3) := by decide +kernel
theorem dL_form_15 : decode cL_form 15 = .ok (.astore 5, 2) := by decide +kernel
theorem dL_form_17 : decode cL_form 17 = .ok (.iconst 1, 1) := by decide +kernel
theorem dL_form_18 : decode cL_form 18 = .ok (.ireturn, 1) := by decide +kernel
theorem dL_form_19 : decode cL_form 19 = .ok (.astore 5, 2) := by decide +kernel
theorem dL_form_21 : decode cL_form 21 = .ok (.iconst 2, 1) := by decide +kernel
theorem dL_form_22 : decode cL_form 22 = .ok (.ireturn, 1) := by decide +kernel
theorem dL_form_23 : decode cL_form 23 = .ok (.iconst 0, 1) := by decide +kernel
theorem dL_form_24 : decode cL_form 24 = .ok (.ireturn, 1) := by decide +kernel
theorem dL_aim_0 : decode cL_aim 0 = .ok (.aload_n 0, 1) := by decide +kernel
theorem dL_aim_1 : decode cL_aim 1 = .ok (.iload_n 1, 1) := by decide +kernel
theorem dL_aim_2 : decode cL_aim 2 = .ok (.iload_n 2, 1) := by decide +kernel
theorem dL_aim_3 : decode cL_aim 3 = .ok (.iload_n 3, 1) := by decide +kernel
theorem dL_aim_4 : decode cL_aim 4 = .ok (.invokevirtual 21, 3) := by decide +kernel
theorem dL_aim_7 : decode cL_aim 7 = .ok (.goto 7, 3) := by decide +kernel
theorem dL_aim_10 : decode cL_aim 10 = .ok (.astore 4, 2) := by decide +kernel
theorem dL_aim_12 : decode cL_aim 12 = .ok (.iconst 1, 1) := by decide +kernel
theorem dL_aim_13 : decode cL_aim 13 = .ok (.ireturn, 1) := by decide +kernel
theorem dL_aim_14 : decode cL_aim 14 = .ok (.iconst 0, 1) := by decide +kernel
theorem dL_aim_15 : decode cL_aim 15 = .ok (.ireturn, 1) := by decide +kernel
theorem dL_settle_0 : decode cL_settle 0 = .ok (.aload_n 1, 1) := by decide +kernel
theorem dL_settle_1 : decode cL_settle 1 = .ok (.iconst 0, 1) := by decide +kernel
theorem dL_settle_2 : decode cL_settle 2 = .ok (.aload_n 0, 1) := by decide +kernel
theorem dL_settle_3 : decode cL_settle 3 = .ok (.invokevirtual 27, 3) := by decide +kernel
theorem dL_settle_6 : decode cL_settle 6 = .ok (.i2l, 1) := by decide +kernel
theorem dL_settle_7 : decode cL_settle 7 = .ok (.lastore, 1) := by decide +kernel
theorem dL_settle_8 : decode cL_settle 8 = .ok (.goto 9, 3) := by decide +kernel
theorem dL_settle_11 : decode cL_settle 11 = .ok (.astore_n 2, 1) := by decide +kernel
theorem dL_settle_12 : decode cL_settle 12 = .ok (.iconst 1, 1) := by decide +kernel
theorem dL_settle_13 : decode cL_settle 13 = .ok (.ireturn, 1) := by decide +kernel
theorem dL_settle_14 : decode cL_settle 14 = .ok (.astore_n 2, 1) := by decide +kernel
theorem dL_settle_15 : decode cL_settle 15 = .ok (.iconst 2, 1) := by decide +kernel
theorem dL_settle_16 : decode cL_settle 16 = .ok (.ireturn, 1) := by decide +kernel
theorem dL_settle_17 : decode cL_settle 17 = .ok (.iconst 0, 1) := by decide +kernel
theorem dL_settle_18 : decode cL_settle 18 = .ok (.ireturn, 1) := by decide +kernel
theorem dL_told_0 : decode cL_told 0 = .ok (.aload_n 3, 1) := by decide +kernel
theorem dL_told_1 : decode cL_told 1 = .ok (.iconst 0, 1) := by decide +kernel
theorem dL_told_2 : decode cL_told 2 = .ok (.aload_n 0, 1) := by decide +kernel
theorem dL_told_3 : decode cL_told 3 = .ok (.iload_n 1, 1) := by decide +kernel
theorem dL_told_4 : decode cL_told 4 = .ok (.iload_n 2, 1) := by decide +kernel
theorem dL_told_5 : decode cL_told 5 = .ok (.invokevirtual 32, 3) := by decide +kernel
theorem dL_told_8 : decode cL_told 8 = .ok (.i2l, 1) := by decide +kernel
theorem dL_told_9 : decode cL_told 9 = .ok (.lastore, 1) := by decide +kernel
theorem dL_told_10 : decode cL_told 10 = .ok (.goto 15, 3) := by decide +kernel
theorem dL_told_13 : decode cL_told 13 = .ok (.astore 4, 2) := by decide +kernel
theorem dL_told_15 : decode cL_told 15 = .ok (.iconst 1, 1) := by decide +kernel
theorem dL_told_16 : decode cL_told 16 = .ok (.ireturn, 1) := by decide +kernel
theorem dL_told_17 : decode cL_told 17 = .ok (.astore 4, 2) := by decide +kernel
theorem dL_told_19 : decode cL_told 19 = .ok (.iconst 2, 1) := by decide +kernel
theorem dL_told_20 : decode cL_told 20 = .ok (.ireturn, 1) := by decide +kernel
theorem dL_told_21 : decode cL_told 21 = .ok (.astore 4, 2) := by decide +kernel
theorem dL_told_23 : decode cL_told 23 = .ok (.iconst 3, 1) := by decide +kernel
theorem dL_told_24 : decode cL_told 24 = .ok (.ireturn, 1) := by decide +kernel
theorem dL_told_25 : decode cL_told 25 = .ok (.iconst 0, 1) := by decide +kernel
theorem dL_told_26 : decode cL_told 26 = .ok (.ireturn, 1) := by decide +kernel
theorem dL_value_0 : decode cL_value 0 = .ok (.aload_n 2, 1) := by decide +kernel
theorem dL_value_1 : decode cL_value 1 = .ok (.iconst 0, 1) := by decide +kernel
theorem dL_value_2 : decode cL_value 2 = .ok (.aload_n 0, 1) := by decide +kernel
theorem dL_value_3 : decode cL_value 3 = .ok (.iload_n 1, 1) := by decide +kernel
theorem dL_value_4 : decode cL_value 4 = .ok (.invokevirtual 36, 3) := by decide +kernel
theorem dL_value_7 : decode cL_value 7 = .ok (.lastore, 1) := by decide +kernel
theorem dL_value_8 : decode cL_value 8 = .ok (.goto 9, 3) := by decide +kernel
theorem dL_value_11 : decode cL_value 11 = .ok (.astore_n 3, 1) := by decide +kernel
theorem dL_value_12 : decode cL_value 12 = .ok (.iconst 1, 1) := by decide +kernel
theorem dL_value_13 : decode cL_value 13 = .ok (.ireturn, 1) := by decide +kernel
theorem dL_value_14 : decode cL_value 14 = .ok (.astore_n 3, 1) := by decide +kernel
theorem dL_value_15 : decode cL_value 15 = .ok (.iconst 2, 1) := by decide +kernel
theorem dL_value_16 : decode cL_value 16 = .ok (.ireturn, 1) := by decide +kernel
theorem dL_value_17 : decode cL_value 17 = .ok (.iconst 0, 1) := by decide +kernel
theorem dL_value_18 : decode cL_value 18 = .ok (.ireturn, 1) := by decide +kernel
theorem dL_wrong_0 : decode cL_wrong 0 = .ok (.aload_n 1, 1) := by decide +kernel
theorem dL_wrong_1 : decode cL_wrong 1 = .ok (.iconst 0, 1) := by decide +kernel
theorem dL_wrong_2 : decode cL_wrong 2 = .ok (.aload_n 0, 1) := by decide +kernel
theorem dL_wrong_3 : decode cL_wrong 3 = .ok (.invokevirtual 40, 3) := by decide +kernel
theorem dL_wrong_6 : decode cL_wrong 6 = .ok (.i2l, 1) := by decide +kernel
theorem dL_wrong_7 : decode cL_wrong 7 = .ok (.lastore, 1) := by decide +kernel
theorem dL_wrong_8 : decode cL_wrong 8 = .ok (.goto 6, 3) := by decide +kernel
theorem dL_wrong_11 : decode cL_wrong 11 = .ok (.astore_n 2, 1) := by decide +kernel
theorem dL_wrong_12 : decode cL_wrong 12 = .ok (.iconst 1, 1) := by decide +kernel
theorem dL_wrong_13 : decode cL_wrong 13 = .ok (.ireturn, 1) := by decide +kernel
theorem dL_wrong_14 : decode cL_wrong 14 = .ok (.iconst 0, 1) := by decide +kernel
theorem dL_wrong_15 : decode cL_wrong 15 = .ok (.ireturn, 1) := by decide +kernel
