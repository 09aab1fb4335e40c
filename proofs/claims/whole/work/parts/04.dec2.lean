theorem dX0_settle_0 : decode cX0_settle 0 = .ok (.aload_n 0, 1) := by decide +kernel
theorem dX0_settle_1 : decode cX0_settle 1 = .ok (.iconst 1, 1) := by decide +kernel
theorem dX0_settle_2 : decode cX0_settle 2 = .ok (.putfield 38, 3) := by decide +kernel
theorem dX0_settle_5 : decode cX0_settle 5 = .ok (.aload_n 0, 1) := by decide +kernel
theorem dX0_settle_6 : decode cX0_settle 6 = .ok (.invokevirtual 78, 3) := by decide +kernel
theorem dX0_settle_9 : decode cX0_settle 9 = .ok (.iconst 0, 1) := by decide +kernel
theorem dX0_settle_10 : decode cX0_settle 10 = .ok (.istore_n 1, 1) := by decide +kernel
theorem dX0_settle_11 : decode cX0_settle 11 = .ok (.iload_n 1, 1) := by decide +kernel
theorem dX0_settle_12 : decode cX0_settle 12 = .ok (.sipush 360, 3) := by decide +kernel
theorem dX0_settle_15 : decode cX0_settle 15 = .ok (.if_icmp .gt 69, 3) := by decide +kernel
theorem dX0_settle_18 : decode cX0_settle 18 = .ok (.aload_n 0, 1) := by decide +kernel
theorem dX0_settle_19 : decode cX0_settle 19 = .ok (.invokevirtual 81, 3) := by decide +kernel
theorem dX0_settle_22 : decode cX0_settle 22 = .ok (.aload_n 0, 1) := by decide +kernel
theorem dX0_settle_23 : decode cX0_settle 23 = .ok (.getfield 31, 3) := by decide +kernel
theorem dX0_settle_26 : decode cX0_settle 26 = .ok (.aload_n 0, 1) := by decide +kernel
theorem dX0_settle_27 : decode cX0_settle 27 = .ok (.getfield 34, 3) := by decide +kernel
theorem dX0_settle_30 : decode cX0_settle 30 = .ok (.iaload, 1) := by decide +kernel
theorem dX0_settle_31 : decode cX0_settle 31 = .ok (.sipush 4096, 3) := by decide +kernel
theorem dX0_settle_34 : decode cX0_settle 34 = .ok (.if_icmp .le 13, 3) := by decide +kernel
theorem dX0_settle_37 : decode cX0_settle 37 = .ok (.new 42, 3) := by decide +kernel
theorem dX0_settle_40 : decode cX0_settle 40 = .ok (.dup, 1) := by decide +kernel
theorem dX0_settle_41 : decode cX0_settle 41 = .ok (.ldc 84, 2) := by decide +kernel
theorem dX0_settle_43 : decode cX0_settle 43 = .ok (.invokespecial 46, 3) := by decide +kernel
theorem dX0_settle_46 : decode cX0_settle 46 = .ok (.athrow, 1) := by decide +kernel
theorem dX0_settle_47 : decode cX0_settle 47 = .ok (.aload_n 0, 1) := by decide +kernel
theorem dX0_settle_48 : decode cX0_settle 48 = .ok (.invokevirtual 86, 3) := by decide +kernel
theorem dX0_settle_51 : decode cX0_settle 51 = .ok (.iconst (-1), 1) := by decide +kernel
theorem dX0_settle_52 : decode cX0_settle 52 = .ok (.if_icmp .ne 5, 3) := by decide +kernel
theorem dX0_settle_55 : decode cX0_settle 55 = .ok (.iload_n 1, 1) := by decide +kernel
theorem dX0_settle_56 : decode cX0_settle 56 = .ok (.ireturn, 1) := by decide +kernel
theorem dX0_settle_57 : decode cX0_settle 57 = .ok (.aload_n 0, 1) := by decide +kernel
theorem dX0_settle_58 : decode cX0_settle 58 = .ok (.invokevirtual 90, 3) := by decide +kernel
theorem dX0_settle_61 : decode cX0_settle 61 = .ok (.ifCond .eq 13, 3) := by decide +kernel
theorem dX0_settle_64 : decode cX0_settle 64 = .ok (.new 94, 3) := by decide +kernel
theorem dX0_settle_67 : decode cX0_settle 67 = .ok (.dup, 1) := by decide +kernel
theorem dX0_settle_68 : decode cX0_settle 68 = .ok (.ldc 96, 2) := by decide +kernel
theorem dX0_settle_70 : decode cX0_settle 70 = .ok (.invokespecial 98, 3) := by decide +kernel
theorem dX0_settle_73 : decode cX0_settle 73 = .ok (.athrow, 1) := by decide +kernel
theorem dX0_settle_74 : decode cX0_settle 74 = .ok (.aload_n 0, 1) := by decide +kernel
theorem dX0_settle_75 : decode cX0_settle 75 = .ok (.invokevirtual 99, 3) := by decide +kernel
theorem dX0_settle_78 : decode cX0_settle 78 = .ok (.iinc 1 1, 3) := by decide +kernel
theorem dX0_settle_81 : decode cX0_settle 81 = .ok (.goto (-70), 3) := by decide +kernel
theorem dX0_settle_84 : decode cX0_settle 84 = .ok (.sipush 360, 3) := by decide +kernel
theorem dX0_settle_87 : decode cX0_settle 87 = .ok (.ireturn, 1) := by decide +kernel
theorem dX0_takeFirstForms_0 : decode cX0_takeFirstForms 0 = .ok (.iconst 0, 1) := by decide +kernel
theorem dX0_takeFirstForms_1 : decode cX0_takeFirstForms 1 = .ok (.istore_n 1, 1) := by decide +kernel
theorem dX0_takeFirstForms_2 : decode cX0_takeFirstForms 2 = .ok (.iload_n 1, 1) := by decide +kernel
theorem dX0_takeFirstForms_3 : decode cX0_takeFirstForms 3 = .ok (.aload_n 0, 1) := by decide +kernel
theorem dX0_takeFirstForms_4 : decode cX0_takeFirstForms 4 = .ok (.getfield 34, 3) := by decide +kernel
theorem dX0_takeFirstForms_7 : decode cX0_takeFirstForms 7 = .ok (.if_icmp .ge 29, 3) := by decide +kernel
theorem dX0_takeFirstForms_10 : decode cX0_takeFirstForms 10 = .ok (.aload_n 0, 1) := by decide +kernel
theorem dX0_takeFirstForms_11 : decode cX0_takeFirstForms 11 = .ok (.getfield 28, 3) := by decide +kernel
theorem dX0_takeFirstForms_14 : decode cX0_takeFirstForms 14 = .ok (.iload_n 1, 1) := by decide +kernel
theorem dX0_takeFirstForms_15 : decode cX0_takeFirstForms 15 = .ok (.aload_n 0, 1) := by decide +kernel
theorem dX0_takeFirstForms_16 : decode cX0_takeFirstForms 16 = .ok (.getfield 19, 3) := by decide +kernel
theorem dX0_takeFirstForms_19 : decode cX0_takeFirstForms 19 = .ok (.iload_n 1, 1) := by decide +kernel
theorem dX0_takeFirstForms_20 : decode cX0_takeFirstForms 20 = .ok (.iaload, 1) := by decide +kernel
theorem dX0_takeFirstForms_21 : decode cX0_takeFirstForms 21 = .ok (.ifCond .ne 7, 3) := by decide +kernel
theorem dX0_takeFirstForms_24 : decode cX0_takeFirstForms 24 = .ok (.iconst (-1), 1) := by decide +kernel
theorem dX0_takeFirstForms_25 : decode cX0_takeFirstForms 25 = .ok (.goto 4, 3) := by decide +kernel
theorem dX0_takeFirstForms_28 : decode cX0_takeFirstForms 28 = .ok (.iconst 0, 1) := by decide +kernel
theorem dX0_takeFirstForms_29 : decode cX0_takeFirstForms 29 = .ok (.iastore, 1) := by decide +kernel
theorem dX0_takeFirstForms_30 : decode cX0_takeFirstForms 30 = .ok (.iinc 1 1, 3) := by decide +kernel
theorem dX0_takeFirstForms_33 : decode cX0_takeFirstForms 33 = .ok (.goto (-31), 3) := by decide +kernel
theorem dX0_takeFirstForms_36 : decode cX0_takeFirstForms 36 = .ok (.return_, 1) := by decide +kernel
theorem dX0_giveAddresses_0 : decode cX0_giveAddresses 0 = .ok (.aload_n 0, 1) := by decide +kernel
theorem dX0_giveAddresses_1 : decode cX0_giveAddresses 1 = .ok (.getfield 31, 3) := by decide +kernel
theorem dX0_giveAddresses_4 : decode cX0_giveAddresses 4 = .ok (.iconst 0, 1) := by decide +kernel
theorem dX0_giveAddresses_5 : decode cX0_giveAddresses 5 = .ok (.iconst 0, 1) := by decide +kernel
theorem dX0_giveAddresses_6 : decode cX0_giveAddresses 6 = .ok (.iastore, 1) := by decide +kernel
theorem dX0_giveAddresses_7 : decode cX0_giveAddresses 7 = .ok (.iconst 0, 1) := by decide +kernel
theorem dX0_giveAddresses_8 : decode cX0_giveAddresses 8 = .ok (.istore_n 1, 1) := by decide +kernel
theorem dX0_giveAddresses_9 : decode cX0_giveAddresses 9 = .ok (.iload_n 1, 1) := by decide +kernel
theorem dX0_giveAddresses_10 : decode cX0_giveAddresses 10 = .ok (.aload_n 0, 1) := by decide +kernel
theorem dX0_giveAddresses_11 : decode cX0_giveAddresses 11 = .ok (.getfield 34, 3) := by decide +kernel
theorem dX0_giveAddresses_14 : decode cX0_giveAddresses 14 = .ok (.if_icmp .ge 29, 3) := by decide +kernel
theorem dX0_giveAddresses_17 : decode cX0_giveAddresses 17 = .ok (.aload_n 0, 1) := by decide +kernel
theorem dX0_giveAddresses_18 : decode cX0_giveAddresses 18 = .ok (.getfield 31, 3) := by decide +kernel
theorem dX0_giveAddresses_21 : decode cX0_giveAddresses 21 = .ok (.iload_n 1, 1) := by decide +kernel
theorem dX0_giveAddresses_22 : decode cX0_giveAddresses 22 = .ok (.iconst 1, 1) := by decide +kernel
theorem dX0_giveAddresses_23 : decode cX0_giveAddresses 23 = .ok (.iadd, 1) := by decide +kernel
theorem dX0_giveAddresses_24 : decode cX0_giveAddresses 24 = .ok (.aload_n 0, 1) := by decide +kernel
theorem dX0_giveAddresses_25 : decode cX0_giveAddresses 25 = .ok (.getfield 31, 3) := by decide +kernel
theorem dX0_giveAddresses_28 : decode cX0_giveAddresses 28 = .ok (.iload_n 1, 1) := by decide +kernel
theorem dX0_giveAddresses_29 : decode cX0_giveAddresses 29 = .ok (.iaload, 1) := by decide +kernel
theorem dX0_giveAddresses_30 : decode cX0_giveAddresses 30 = .ok (.aload_n 0, 1) := by decide +kernel
theorem dX0_giveAddresses_31 : decode cX0_giveAddresses 31 = .ok (.iload_n 1, 1) := by decide +kernel
theorem dX0_giveAddresses_32 : decode cX0_giveAddresses 32 = .ok (.invokevirtual 115, 3) := by decide +kernel
theorem dX0_giveAddresses_35 : decode cX0_giveAddresses 35 = .ok (.iadd, 1) := by decide +kernel
theorem dX0_giveAddresses_36 : decode cX0_giveAddresses 36 = .ok (.iastore, 1) := by decide +kernel
theorem dX0_giveAddresses_37 : decode cX0_giveAddresses 37 = .ok (.iinc 1 1, 3) := by decide +kernel
theorem dX0_giveAddresses_40 : decode cX0_giveAddresses 40 = .ok (.goto (-31), 3) := by decide +kernel
theorem dX0_giveAddresses_43 : decode cX0_giveAddresses 43 = .ok (.return_, 1) := by decide +kernel
theorem dX0_sizeOf_0 : decode cX0_sizeOf 0 = .ok (.aload_n 0, 1) := by decide +kernel
theorem dX0_sizeOf_1 : decode cX0_sizeOf 1 = .ok (.getfield 28, 3) := by decide +kernel
theorem dX0_sizeOf_4 : decode cX0_sizeOf 4 = .ok (.iload_n 1, 1) := by decide +kernel
theorem dX0_sizeOf_5 : decode cX0_sizeOf 5 = .ok (.iaload, 1) := by decide +kernel
theorem dX0_sizeOf_6 : decode cX0_sizeOf 6 = .ok (.iconst (-1), 1) := by decide +kernel
theorem dX0_sizeOf_7 : decode cX0_sizeOf 7 = .ok (.if_icmp .ne 7, 3) := by decide +kernel
theorem dX0_sizeOf_10 : decode cX0_sizeOf 10 = .ok (.iconst 0, 1) := by decide +kernel
theorem dX0_sizeOf_11 : decode cX0_sizeOf 11 = .ok (.goto 18, 3) := by decide +kernel
theorem dX0_sizeOf_14 : decode cX0_sizeOf 14 = .ok (.aload_n 0, 1) := by decide +kernel
theorem dX0_sizeOf_15 : decode cX0_sizeOf 15 = .ok (.getfield 9, 3) := by decide +kernel
theorem dX0_sizeOf_18 : decode cX0_sizeOf 18 = .ok (.iload_n 1, 1) := by decide +kernel
theorem dX0_sizeOf_19 : decode cX0_sizeOf 19 = .ok (.aload_n 0, 1) := by decide +kernel
theorem dX0_sizeOf_20 : decode cX0_sizeOf 20 = .ok (.getfield 28, 3) := by decide +kernel
theorem dX0_sizeOf_23 : decode cX0_sizeOf 23 = .ok (.iload_n 1, 1) := by decide +kernel
theorem dX0_sizeOf_24 : decode cX0_sizeOf 24 = .ok (.iaload, 1) := by decide +kernel
theorem dX0_sizeOf_25 : decode cX0_sizeOf 25 = .ok (.invokestatic 62, 3) := by decide +kernel
theorem dX0_sizeOf_28 : decode cX0_sizeOf 28 = .ok (.iaload, 1) := by decide +kernel
theorem dX0_sizeOf_29 : decode cX0_sizeOf 29 = .ok (.ireturn, 1) := by decide +kernel
theorem dX0_leastUnfit_0 : decode cX0_leastUnfit 0 = .ok (.iconst 0, 1) := by decide +kernel
theorem dX0_leastUnfit_1 : decode cX0_leastUnfit 1 = .ok (.istore_n 1, 1) := by decide +kernel
theorem dX0_leastUnfit_2 : decode cX0_leastUnfit 2 = .ok (.iload_n 1, 1) := by decide +kernel
theorem dX0_leastUnfit_3 : decode cX0_leastUnfit 3 = .ok (.aload_n 0, 1) := by decide +kernel
theorem dX0_leastUnfit_4 : decode cX0_leastUnfit 4 = .ok (.getfield 34, 3) := by decide +kernel
theorem dX0_leastUnfit_7 : decode cX0_leastUnfit 7 = .ok (.if_icmp .ge 19, 3) := by decide +kernel
theorem dX0_leastUnfit_10 : decode cX0_leastUnfit 10 = .ok (.aload_n 0, 1) := by decide +kernel
theorem dX0_leastUnfit_11 : decode cX0_leastUnfit 11 = .ok (.iload_n 1, 1) := by decide +kernel
theorem dX0_leastUnfit_12 : decode cX0_leastUnfit 12 = .ok (.invokevirtual 108, 3) := by decide +kernel
theorem dX0_leastUnfit_15 : decode cX0_leastUnfit 15 = .ok (.ifCond .ne 5, 3) := by decide +kernel
theorem dX0_leastUnfit_18 : decode cX0_leastUnfit 18 = .ok (.iload_n 1, 1) := by decide +kernel
theorem dX0_leastUnfit_19 : decode cX0_leastUnfit 19 = .ok (.ireturn, 1) := by decide +kernel
theorem dX0_leastUnfit_20 : decode cX0_leastUnfit 20 = .ok (.iinc 1 1, 3) := by decide +kernel
theorem dX0_leastUnfit_23 : decode cX0_leastUnfit 23 = .ok (.goto (-21), 3) := by decide +kernel
theorem dX0_leastUnfit_26 : decode cX0_leastUnfit 26 = .ok (.iconst (-1), 1) := by decide +kernel
theorem dX0_leastUnfit_27 : decode cX0_leastUnfit 27 = .ok (.ireturn, 1) := by decide +kernel
theorem dX0_isFitting_0 : decode cX0_isFitting 0 = .ok (.aload_n 0, 1) := by decide +kernel
theorem dX0_isFitting_1 : decode cX0_isFitting 1 = .ok (.getfield 28, 3) := by decide +kernel
theorem dX0_isFitting_4 : decode cX0_isFitting 4 = .ok (.iload_n 1, 1) := by decide +kernel
theorem dX0_isFitting_5 : decode cX0_isFitting 5 = .ok (.iaload, 1) := by decide +kernel
theorem dX0_isFitting_6 : decode cX0_isFitting 6 = .ok (.iconst (-1), 1) := by decide +kernel
theorem dX0_isFitting_7 : decode cX0_isFitting 7 = .ok (.if_icmp .ne 5, 3) := by decide +kernel
theorem dX0_isFitting_10 : decode cX0_isFitting 10 = .ok (.iconst 1, 1) := by decide +kernel
theorem dX0_isFitting_11 : decode cX0_isFitting 11 = .ok (.ireturn, 1) := by decide +kernel
theorem dX0_isFitting_12 : decode cX0_isFitting 12 = .ok (.iload_n 1, 1) := by decide +kernel
theorem dX0_isFitting_13 : decode cX0_isFitting 13 = .ok (.aload_n 0, 1) := by decide +kernel
theorem dX0_isFitting_14 : decode cX0_isFitting 14 = .ok (.getfield 28, 3) := by decide +kernel
theorem dX0_isFitting_17 : decode cX0_isFitting 17 = .ok (.iload_n 1, 1) := by decide +kernel
theorem dX0_isFitting_18 : decode cX0_isFitting 18 = .ok (.iaload, 1) := by decide +kernel
theorem dX0_isFitting_19 : decode cX0_isFitting 19 = .ok (.invokestatic 62, 3) := by decide +kernel
theorem dX0_isFitting_22 : decode cX0_isFitting 22 = .ok (.istore_n 2, 1) := by decide +kernel
theorem dX0_isFitting_23 : decode cX0_isFitting 23 = .ok (.aload_n 0, 1) := by decide +kernel
theorem dX0_isFitting_24 : decode cX0_isFitting 24 = .ok (.iload_n 1, 1) := by decide +kernel
theorem dX0_isFitting_25 : decode cX0_isFitting 25 = .ok (.invokevirtual 111, 3) := by decide +kernel
theorem dX0_isFitting_28 : decode cX0_isFitting 28 = .ok (.lstore_n 3, 1) := by decide +kernel
theorem dX0_isFitting_29 : decode cX0_isFitting 29 = .ok (.aload_n 0, 1) := by decide +kernel
theorem dX0_isFitting_30 : decode cX0_isFitting 30 = .ok (.getfield 16, 3) := by decide +kernel
theorem dX0_isFitting_33 : decode cX0_isFitting 33 = .ok (.iload_n 2, 1) := by decide +kernel
theorem dX0_isFitting_34 : decode cX0_isFitting 34 = .ok (.iaload, 1) := by decide +kernel
theorem dX0_isFitting_35 : decode cX0_isFitting 35 = .ok (.ifCond .ne 28, 3) := by decide +kernel
theorem dX0_isFitting_38 : decode cX0_isFitting 38 = .ok (.lload_n 3, 1) := by decide +kernel
theorem dX0_isFitting_39 : decode cX0_isFitting 39 = .ok (.lconst 0, 1) := by decide +kernel
theorem dX0_isFitting_40 : decode cX0_isFitting 40 = .ok (.lcmp, 1) := by decide +kernel
theorem dX0_isFitting_41 : decode cX0_isFitting 41 = .ok (.ifCond .lt 20, 3) := by decide +kernel
theorem dX0_isFitting_44 : decode cX0_isFitting 44 = .ok (.lload_n 3, 1) := by decide +kernel
theorem dX0_isFitting_45 : decode cX0_isFitting 45 = .ok (.lconst 1, 1) := by decide +kernel
theorem dX0_isFitting_46 : decode cX0_isFitting 46 = .ok (.aload_n 0, 1) := by decide +kernel
theorem dX0_isFitting_47 : decode cX0_isFitting 47 = .ok (.getfield 13, 3) := by decide +kernel
theorem dX0_isFitting_50 : decode cX0_isFitting 50 = .ok (.iload_n 2, 1) := by decide +kernel
theorem dX0_isFitting_51 : decode cX0_isFitting 51 = .ok (.iaload, 1) := by decide +kernel
theorem dX0_isFitting_52 : decode cX0_isFitting 52 = .ok (.lshl, 1) := by decide +kernel
theorem dX0_isFitting_53 : decode cX0_isFitting 53 = .ok (.lcmp, 1) := by decide +kernel
theorem dX0_isFitting_54 : decode cX0_isFitting 54 = .ok (.ifCond .ge 7, 3) := by decide +kernel
theorem dX0_isFitting_57 : decode cX0_isFitting 57 = .ok (.iconst 1, 1) := by decide +kernel
theorem dX0_isFitting_58 : decode cX0_isFitting 58 = .ok (.goto 4, 3) := by decide +kernel
theorem dX0_isFitting_61 : decode cX0_isFitting 61 = .ok (.iconst 0, 1) := by decide +kernel
theorem dX0_isFitting_62 : decode cX0_isFitting 62 = .ok (.ireturn, 1) := by decide +kernel
theorem dX0_isFitting_63 : decode cX0_isFitting 63 = .ok (.lconst 1, 1) := by decide +kernel
theorem dX0_isFitting_64 : decode cX0_isFitting 64 = .ok (.aload_n 0, 1) := by decide +kernel
theorem dX0_isFitting_65 : decode cX0_isFitting 65 = .ok (.getfield 13, 3) := by decide +kernel
theorem dX0_isFitting_68 : decode cX0_isFitting 68 = .ok (.iload_n 2, 1) := by decide +kernel
theorem dX0_isFitting_69 : decode cX0_isFitting 69 = .ok (.iaload, 1) := by decide +kernel
theorem dX0_isFitting_70 : decode cX0_isFitting 70 = .ok (.iconst 1, 1) := by decide +kernel
theorem dX0_isFitting_71 : decode cX0_isFitting 71 = .ok (.isub, 1) := by decide +kernel
theorem dX0_isFitting_72 : decode cX0_isFitting 72 = .ok (.lshl, 1) := by decide +kernel
theorem dX0_isFitting_73 : decode cX0_isFitting 73 = .ok (.lstore 5, 2) := by decide +kernel
theorem dX0_isFitting_75 : decode cX0_isFitting 75 = .ok (.lload_n 3, 1) := by decide +kernel
theorem dX0_isFitting_76 : decode cX0_isFitting 76 = .ok (.lload 5, 2) := by decide +kernel
theorem dX0_isFitting_78 : decode cX0_isFitting 78 = .ok (.lneg, 1) := by decide +kernel
theorem dX0_isFitting_79 : decode cX0_isFitting 79 = .ok (.lcmp, 1) := by decide +kernel
theorem dX0_isFitting_80 : decode cX0_isFitting 80 = .ok (.ifCond .lt 14, 3) := by decide +kernel
theorem dX0_isFitting_83 : decode cX0_isFitting 83 = .ok (.lload_n 3, 1) := by decide +kernel
theorem dX0_isFitting_84 : decode cX0_isFitting 84 = .ok (.lload 5, 2) := by decide +kernel
theorem dX0_isFitting_86 : decode cX0_isFitting 86 = .ok (.lcmp, 1) := by decide +kernel
theorem dX0_isFitting_87 : decode cX0_isFitting 87 = .ok (.ifCond .ge 7, 3) := by decide +kernel
theorem dX0_isFitting_90 : decode cX0_isFitting 90 = .ok (.iconst 1, 1) := by decide +kernel
theorem dX0_isFitting_91 : decode cX0_isFitting 91 = .ok (.goto 4, 3) := by decide +kernel
theorem dX0_isFitting_94 : decode cX0_isFitting 94 = .ok (.iconst 0, 1) := by decide +kernel
theorem dX0_isFitting_95 : decode cX0_isFitting 95 = .ok (.ireturn, 1) := by decide +kernel
theorem dX0_valueOf_0 : decode cX0_valueOf 0 = .ok (.aload_n 0, 1) := by decide +kernel
theorem dX0_valueOf_1 : decode cX0_valueOf 1 = .ok (.getfield 31, 3) := by decide +kernel
theorem dX0_valueOf_4 : decode cX0_valueOf 4 = .ok (.aload_n 0, 1) := by decide +kernel
theorem dX0_valueOf_5 : decode cX0_valueOf 5 = .ok (.getfield 25, 3) := by decide +kernel
theorem dX0_valueOf_8 : decode cX0_valueOf 8 = .ok (.iload_n 1, 1) := by decide +kernel
theorem dX0_valueOf_9 : decode cX0_valueOf 9 = .ok (.iaload, 1) := by decide +kernel
theorem dX0_valueOf_10 : decode cX0_valueOf 10 = .ok (.iaload, 1) := by decide +kernel
theorem dX0_valueOf_11 : decode cX0_valueOf 11 = .ok (.i2l, 1) := by decide +kernel
theorem dX0_valueOf_12 : decode cX0_valueOf 12 = .ok (.aload_n 0, 1) := by decide +kernel
theorem dX0_valueOf_13 : decode cX0_valueOf 13 = .ok (.getfield 22, 3) := by decide +kernel
theorem dX0_valueOf_16 : decode cX0_valueOf 16 = .ok (.iload_n 1, 1) := by decide +kernel
theorem dX0_valueOf_17 : decode cX0_valueOf 17 = .ok (.iaload, 1) := by decide +kernel
theorem dX0_valueOf_18 : decode cX0_valueOf 18 = .ok (.i2l, 1) := by decide +kernel
theorem dX0_valueOf_19 : decode cX0_valueOf 19 = .ok (.ladd, 1) := by decide +kernel
theorem dX0_valueOf_20 : decode cX0_valueOf 20 = .ok (.lstore_n 2, 1) := by decide +kernel
theorem dX0_valueOf_21 : decode cX0_valueOf 21 = .ok (.aload_n 0, 1) := by decide +kernel
theorem dX0_valueOf_22 : decode cX0_valueOf 22 = .ok (.iload_n 1, 1) := by decide +kernel
theorem dX0_valueOf_23 : decode cX0_valueOf 23 = .ok (.invokevirtual 119, 3) := by decide +kernel
theorem dX0_valueOf_26 : decode cX0_valueOf 26 = .ok (.ifCond .eq 15, 3) := by decide +kernel
theorem dX0_valueOf_29 : decode cX0_valueOf 29 = .ok (.lload_n 2, 1) := by decide +kernel
theorem dX0_valueOf_30 : decode cX0_valueOf 30 = .ok (.aload_n 0, 1) := by decide +kernel
theorem dX0_valueOf_31 : decode cX0_valueOf 31 = .ok (.getfield 31, 3) := by decide +kernel
theorem dX0_valueOf_34 : decode cX0_valueOf 34 = .ok (.iload_n 1, 1) := by decide +kernel
theorem dX0_valueOf_35 : decode cX0_valueOf 35 = .ok (.iaload, 1) := by decide +kernel
theorem dX0_valueOf_36 : decode cX0_valueOf 36 = .ok (.i2l, 1) := by decide +kernel
theorem dX0_valueOf_37 : decode cX0_valueOf 37 = .ok (.lsub, 1) := by decide +kernel
theorem dX0_valueOf_38 : decode cX0_valueOf 38 = .ok (.goto 4, 3) := by decide +kernel
theorem dX0_valueOf_41 : decode cX0_valueOf 41 = .ok (.lload_n 2, 1) := by decide +kernel
theorem dX0_valueOf_42 : decode cX0_valueOf 42 = .ok (.lreturn, 1) := by decide +kernel
theorem dX0_isFromItsLine_0 : decode cX0_isFromItsLine 0 = .ok (.aload_n 0, 1) := by decide +kernel
theorem dX0_isFromItsLine_1 : decode cX0_isFromItsLine 1 = .ok (.getfield 28, 3) := by decide +kernel
theorem dX0_isFromItsLine_4 : decode cX0_isFromItsLine 4 = .ok (.iload_n 1, 1) := by decide +kernel
theorem dX0_isFromItsLine_5 : decode cX0_isFromItsLine 5 = .ok (.iaload, 1) := by decide +kernel
theorem dX0_isFromItsLine_6 : decode cX0_isFromItsLine 6 = .ok (.iconst (-1), 1) := by decide +kernel
theorem dX0_isFromItsLine_7 : decode cX0_isFromItsLine 7 = .ok (.if_icmp .eq 26, 3) := by decide +kernel
theorem dX0_isFromItsLine_10 : decode cX0_isFromItsLine 10 = .ok (.aload_n 0, 1) := by decide +kernel
theorem dX0_isFromItsLine_11 : decode cX0_isFromItsLine 11 = .ok (.getfield 16, 3) := by decide +kernel
theorem dX0_isFromItsLine_14 : decode cX0_isFromItsLine 14 = .ok (.iload_n 1, 1) := by decide +kernel
theorem dX0_isFromItsLine_15 : decode cX0_isFromItsLine 15 = .ok (.aload_n 0, 1) := by decide +kernel
theorem dX0_isFromItsLine_16 : decode cX0_isFromItsLine 16 = .ok (.getfield 28, 3) := by decide +kernel
theorem dX0_isFromItsLine_19 : decode cX0_isFromItsLine 19 = .ok (.iload_n 1, 1) := by decide +kernel
theorem dX0_isFromItsLine_20 : decode cX0_isFromItsLine 20 = .ok (.iaload, 1) := by decide +kernel
theorem dX0_isFromItsLine_21 : decode cX0_isFromItsLine 21 = .ok (.invokestatic 62, 3) := by decide +kernel
theorem dX0_isFromItsLine_24 : decode cX0_isFromItsLine 24 = .ok (.iaload, 1) := by decide +kernel
theorem dX0_isFromItsLine_25 : decode cX0_isFromItsLine 25 = .ok (.iconst 2, 1) := by decide +kernel
theorem dX0_isFromItsLine_26 : decode cX0_isFromItsLine 26 = .ok (.if_icmp .ne 7, 3) := by decide +kernel
theorem dX0_isFromItsLine_29 : decode cX0_isFromItsLine 29 = .ok (.iconst 1, 1) := by decide +kernel
theorem dX0_isFromItsLine_30 : decode cX0_isFromItsLine 30 = .ok (.goto 4, 3) := by decide +kernel
theorem dX0_isFromItsLine_33 : decode cX0_isFromItsLine 33 = .ok (.iconst 0, 1) := by decide +kernel
theorem dX0_isFromItsLine_34 : decode cX0_isFromItsLine 34 = .ok (.ireturn, 1) := by decide +kernel
theorem dX0_someUnfitHasNoNext_0 : decode cX0_someUnfitHasNoNext 0 = .ok (.iconst 0, 1) := by decide +kernel
theorem dX0_someUnfitHasNoNext_1 : decode cX0_someUnfitHasNoNext 1 = .ok (.istore_n 1, 1) := by decide +kernel
theorem dX0_someUnfitHasNoNext_2 : decode cX0_someUnfitHasNoNext 2 = .ok (.iload_n 1, 1) := by decide +kernel
theorem dX0_someUnfitHasNoNext_3 : decode cX0_someUnfitHasNoNext 3 = .ok (.aload_n 0, 1) := by decide +kernel
theorem dX0_someUnfitHasNoNext_4 : decode cX0_someUnfitHasNoNext 4 = .ok (.getfield 34, 3) := by decide +kernel
theorem dX0_someUnfitHasNoNext_7 : decode cX0_someUnfitHasNoNext 7 = .ok (.if_icmp .ge 36, 3) := by decide +kernel
theorem dX0_someUnfitHasNoNext_10 : decode cX0_someUnfitHasNoNext 10 = .ok (.aload_n 0, 1) := by decide +kernel
theorem dX0_someUnfitHasNoNext_11 : decode cX0_someUnfitHasNoNext 11 = .ok (.getfield 28, 3) := by decide +kernel
theorem dX0_someUnfitHasNoNext_14 : decode cX0_someUnfitHasNoNext 14 = .ok (.iload_n 1, 1) := by decide +kernel
theorem dX0_someUnfitHasNoNext_15 : decode cX0_someUnfitHasNoNext 15 = .ok (.iaload, 1) := by decide +kernel
theorem dX0_someUnfitHasNoNext_16 : decode cX0_someUnfitHasNoNext 16 = .ok (.iconst 1, 1) := by decide +kernel
theorem dX0_someUnfitHasNoNext_17 : decode cX0_someUnfitHasNoNext 17 = .ok (.iadd, 1) := by decide +kernel
theorem dX0_someUnfitHasNoNext_18 : decode cX0_someUnfitHasNoNext 18 = .ok (.aload_n 0, 1) := by decide +kernel
theorem dX0_someUnfitHasNoNext_19 : decode cX0_someUnfitHasNoNext 19 = .ok (.getfield 19, 3) := by decide +kernel
theorem dX0_someUnfitHasNoNext_22 : decode cX0_someUnfitHasNoNext 22 = .ok (.iload_n 1, 1) := by decide +kernel
theorem dX0_someUnfitHasNoNext_23 : decode cX0_someUnfitHasNoNext 23 = .ok (.iaload, 1) := by decide +kernel
theorem dX0_someUnfitHasNoNext_24 : decode cX0_someUnfitHasNoNext 24 = .ok (.if_icmp .lt 13, 3) := by decide +kernel
theorem dX0_someUnfitHasNoNext_27 : decode cX0_someUnfitHasNoNext 27 = .ok (.aload_n 0, 1) := by decide +kernel
theorem dX0_someUnfitHasNoNext_28 : decode cX0_someUnfitHasNoNext 28 = .ok (.iload_n 1, 1) := by decide +kernel
theorem dX0_someUnfitHasNoNext_29 : decode cX0_someUnfitHasNoNext 29 = .ok (.invokevirtual 108, 3) := by decide +kernel
theorem dX0_someUnfitHasNoNext_32 : decode cX0_someUnfitHasNoNext 32 = .ok (.ifCond .ne 5, 3) := by decide +kernel
theorem dX0_someUnfitHasNoNext_35 : decode cX0_someUnfitHasNoNext 35 = .ok (.iconst 1, 1) := by decide +kernel
theorem dX0_someUnfitHasNoNext_36 : decode cX0_someUnfitHasNoNext 36 = .ok (.ireturn, 1) := by decide +kernel
theorem dX0_someUnfitHasNoNext_37 : decode cX0_someUnfitHasNoNext 37 = .ok (.iinc 1 1, 3) := by decide +kernel
theorem dX0_someUnfitHasNoNext_40 : decode cX0_someUnfitHasNoNext 40 = .ok (.goto (-38), 3) := by decide +kernel
theorem dX0_someUnfitHasNoNext_43 : decode cX0_someUnfitHasNoNext 43 = .ok (.iconst 0, 1) := by decide +kernel
theorem dX0_someUnfitHasNoNext_44 : decode cX0_someUnfitHasNoNext 44 = .ok (.ireturn, 1) := by decide +kernel
theorem dX0_moveUnfitOn_0 : decode cX0_moveUnfitOn 0 = .ok (.iconst 0, 1) := by decide +kernel
theorem dX0_moveUnfitOn_1 : decode cX0_moveUnfitOn 1 = .ok (.istore_n 1, 1) := by decide +kernel
theorem dX0_moveUnfitOn_2 : decode cX0_moveUnfitOn 2 = .ok (.iload_n 1, 1) := by decide +kernel
theorem dX0_moveUnfitOn_3 : decode cX0_moveUnfitOn 3 = .ok (.aload_n 0, 1) := by decide +kernel
theorem dX0_moveUnfitOn_4 : decode cX0_moveUnfitOn 4 = .ok (.getfield 34, 3) := by decide +kernel
theorem dX0_moveUnfitOn_7 : decode cX0_moveUnfitOn 7 = .ok (.if_icmp .ge 27, 3) := by decide +kernel
theorem dX0_moveUnfitOn_10 : decode cX0_moveUnfitOn 10 = .ok (.aload_n 0, 1) := by decide +kernel
theorem dX0_moveUnfitOn_11 : decode cX0_moveUnfitOn 11 = .ok (.iload_n 1, 1) := by decide +kernel
theorem dX0_moveUnfitOn_12 : decode cX0_moveUnfitOn 12 = .ok (.invokevirtual 108, 3) := by decide +kernel
theorem dX0_moveUnfitOn_15 : decode cX0_moveUnfitOn 15 = .ok (.ifCond .ne 13, 3) := by decide +kernel
theorem dX0_moveUnfitOn_18 : decode cX0_moveUnfitOn 18 = .ok (.aload_n 0, 1) := by decide +kernel
theorem dX0_moveUnfitOn_19 : decode cX0_moveUnfitOn 19 = .ok (.getfield 28, 3) := by decide +kernel
theorem dX0_moveUnfitOn_22 : decode cX0_moveUnfitOn 22 = .ok (.iload_n 1, 1) := by decide +kernel
theorem dX0_moveUnfitOn_23 : decode cX0_moveUnfitOn 23 = .ok (.dup2, 1) := by decide +kernel
theorem dX0_moveUnfitOn_24 : decode cX0_moveUnfitOn 24 = .ok (.iaload, 1) := by decide +kernel
theorem dX0_moveUnfitOn_25 : decode cX0_moveUnfitOn 25 = .ok (.iconst 1, 1) := by decide +kernel
theorem dX0_moveUnfitOn_26 : decode cX0_moveUnfitOn 26 = .ok (.iadd, 1) := by decide +kernel
theorem dX0_moveUnfitOn_27 : decode cX0_moveUnfitOn 27 = .ok (.iastore, 1) := by decide +kernel
theorem dX0_moveUnfitOn_28 : decode cX0_moveUnfitOn 28 = .ok (.iinc 1 1, 3) := by decide +kernel
theorem dX0_moveUnfitOn_31 : decode cX0_moveUnfitOn 31 = .ok (.goto (-29), 3) := by decide +kernel
theorem dX0_moveUnfitOn_34 : decode cX0_moveUnfitOn 34 = .ok (.return_, 1) := by decide +kernel
theorem dX0_told_0 : decode cX0_told 0 = .ok (.iload_n 2, 1) := by decide +kernel
theorem dX0_told_1 : decode cX0_told 1 = .ok (.ifCond .eq 23, 3) := by decide +kernel
theorem dX0_told_4 : decode cX0_told 4 = .ok (.iload_n 2, 1) := by decide +kernel
theorem dX0_told_5 : decode cX0_told 5 = .ok (.iconst 1, 1) := by decide +kernel
theorem dX0_told_6 : decode cX0_told 6 = .ok (.if_icmp .eq 18, 3) := by decide +kernel
theorem dX0_told_9 : decode cX0_told 9 = .ok (.iload_n 2, 1) := by decide +kernel
theorem dX0_told_10 : decode cX0_told 10 = .ok (.iconst 2, 1) := by decide +kernel
theorem dX0_told_11 : decode cX0_told 11 = .ok (.if_icmp .eq 13, 3) := by decide +kernel
theorem dX0_told_14 : decode cX0_told 14 = .ok (.new 53, 3) := by decide +kernel
theorem dX0_told_17 : decode cX0_told 17 = .ok (.dup, 1) := by decide +kernel
theorem dX0_told_18 : decode cX0_told 18 = .ok (.ldc 102, 2) := by decide +kernel
theorem dX0_told_20 : decode cX0_told 20 = .ok (.invokespecial 57, 3) := by decide +kernel
theorem dX0_told_23 : decode cX0_told 23 = .ok (.athrow, 1) := by decide +kernel
theorem dX0_told_24 : decode cX0_told 24 = .ok (.aload_n 0, 1) := by decide +kernel
theorem dX0_told_25 : decode cX0_told 25 = .ok (.getfield 38, 3) := by decide +kernel
theorem dX0_told_28 : decode cX0_told 28 = .ok (.ifCond .ne 13, 3) := by decide +kernel
theorem dX0_told_31 : decode cX0_told 31 = .ok (.new 42, 3) := by decide +kernel
theorem dX0_told_34 : decode cX0_told 34 = .ok (.dup, 1) := by decide +kernel
theorem dX0_told_35 : decode cX0_told 35 = .ok (.ldc 104, 2) := by decide +kernel
theorem dX0_told_37 : decode cX0_told 37 = .ok (.invokespecial 46, 3) := by decide +kernel
theorem dX0_told_40 : decode cX0_told 40 = .ok (.athrow, 1) := by decide +kernel
theorem dX0_told_41 : decode cX0_told 41 = .ok (.aload_n 0, 1) := by decide +kernel
theorem dX0_told_42 : decode cX0_told 42 = .ok (.iload_n 1, 1) := by decide +kernel
theorem dX0_told_43 : decode cX0_told 43 = .ok (.invokevirtual 66, 3) := by decide +kernel
theorem dX0_told_46 : decode cX0_told 46 = .ok (.ifCond .ne 25, 3) := by decide +kernel
theorem dX0_told_49 : decode cX0_told 49 = .ok (.iload_n 2, 1) := by decide +kernel
theorem dX0_told_50 : decode cX0_told 50 = .ok (.ifCond .ne 11, 3) := by decide +kernel
theorem dX0_told_53 : decode cX0_told 53 = .ok (.aload_n 0, 1) := by decide +kernel
theorem dX0_told_54 : decode cX0_told 54 = .ok (.iload_n 1, 1) := by decide +kernel
theorem dX0_told_55 : decode cX0_told 55 = .ok (.invokevirtual 70, 3) := by decide +kernel
theorem dX0_told_58 : decode cX0_told 58 = .ok (.ifCond .ne 13, 3) := by decide +kernel
theorem dX0_told_61 : decode cX0_told 61 = .ok (.new 73, 3) := by decide +kernel
theorem dX0_told_64 : decode cX0_told 64 = .ok (.dup, 1) := by decide +kernel
theorem dX0_told_65 : decode cX0_told 65 = .ok (.ldc 106, 2) := by decide +kernel
theorem dX0_told_67 : decode cX0_told 67 = .ok (.invokespecial 77, 3) := by decide +kernel
theorem dX0_told_70 : decode cX0_told 70 = .ok (.athrow, 1) := by decide +kernel
theorem dX0_told_71 : decode cX0_told 71 = .ok (.iload_n 2, 1) := by decide +kernel
theorem dX0_told_72 : decode cX0_told 72 = .ok (.ifCond .ne 10, 3) := by decide +kernel
theorem dX0_told_75 : decode cX0_told 75 = .ok (.aload_n 0, 1) := by decide +kernel
theorem dX0_told_76 : decode cX0_told 76 = .ok (.getfield 31, 3) := by decide +kernel
theorem dX0_told_79 : decode cX0_told 79 = .ok (.iload_n 1, 1) := by decide +kernel
theorem dX0_told_80 : decode cX0_told 80 = .ok (.iaload, 1) := by decide +kernel
theorem dX0_told_81 : decode cX0_told 81 = .ok (.ireturn, 1) := by decide +kernel
theorem dX0_told_82 : decode cX0_told 82 = .ok (.iload_n 2, 1) := by decide +kernel
theorem dX0_told_83 : decode cX0_told 83 = .ok (.iconst 1, 1) := by decide +kernel
theorem dX0_told_84 : decode cX0_told 84 = .ok (.if_icmp .ne 10, 3) := by decide +kernel
theorem dX0_told_87 : decode cX0_told 87 = .ok (.aload_n 0, 1) := by decide +kernel
theorem dX0_told_88 : decode cX0_told 88 = .ok (.getfield 28, 3) := by decide +kernel
theorem dX0_told_91 : decode cX0_told 91 = .ok (.iload_n 1, 1) := by decide +kernel
theorem dX0_told_92 : decode cX0_told 92 = .ok (.iaload, 1) := by decide +kernel
theorem dX0_told_93 : decode cX0_told 93 = .ok (.ireturn, 1) := by decide +kernel
theorem dX0_told_94 : decode cX0_told 94 = .ok (.aload_n 0, 1) := by decide +kernel
theorem dX0_told_95 : decode cX0_told 95 = .ok (.iload_n 1, 1) := by decide +kernel
theorem dX0_told_96 : decode cX0_told 96 = .ok (.invokevirtual 108, 3) := by decide +kernel
theorem dX0_told_99 : decode cX0_told 99 = .ok (.ifCond .eq 7, 3) := by decide +kernel
theorem dX0_told_102 : decode cX0_told 102 = .ok (.iconst 1, 1) := by decide +kernel
theorem dX0_told_103 : decode cX0_told 103 = .ok (.goto 4, 3) := by decide +kernel
theorem dX0_told_106 : decode cX0_told 106 = .ok (.iconst 0, 1) := by decide +kernel
theorem dX0_told_107 : decode cX0_told 107 = .ok (.ireturn, 1) := by decide +kernel
theorem dX0_value_0 : decode cX0_value 0 = .ok (.aload_n 0, 1) := by decide +kernel
theorem dX0_value_1 : decode cX0_value 1 = .ok (.getfield 38, 3) := by decide +kernel
theorem dX0_value_4 : decode cX0_value 4 = .ok (.ifCond .ne 13, 3) := by decide +kernel
theorem dX0_value_7 : decode cX0_value 7 = .ok (.new 42, 3) := by decide +kernel
theorem dX0_value_10 : decode cX0_value 10 = .ok (.dup, 1) := by decide +kernel
theorem dX0_value_11 : decode cX0_value 11 = .ok (.ldc 104, 2) := by decide +kernel
theorem dX0_value_13 : decode cX0_value 13 = .ok (.invokespecial 46, 3) := by decide +kernel
theorem dX0_value_16 : decode cX0_value 16 = .ok (.athrow, 1) := by decide +kernel
theorem dX0_value_17 : decode cX0_value 17 = .ok (.aload_n 0, 1) := by decide +kernel
theorem dX0_value_18 : decode cX0_value 18 = .ok (.iload_n 1, 1) := by decide +kernel
theorem dX0_value_19 : decode cX0_value 19 = .ok (.invokevirtual 66, 3) := by decide +kernel
theorem dX0_value_22 : decode cX0_value 22 = .ok (.ifCond .ne 13, 3) := by decide +kernel
theorem dX0_value_25 : decode cX0_value 25 = .ok (.new 73, 3) := by decide +kernel
theorem dX0_value_28 : decode cX0_value 28 = .ok (.dup, 1) := by decide +kernel
theorem dX0_value_29 : decode cX0_value 29 = .ok (.ldc 106, 2) := by decide +kernel
theorem dX0_value_31 : decode cX0_value 31 = .ok (.invokespecial 77, 3) := by decide +kernel
theorem dX0_value_34 : decode cX0_value 34 = .ok (.athrow, 1) := by decide +kernel
theorem dX0_value_35 : decode cX0_value 35 = .ok (.aload_n 0, 1) := by decide +kernel
theorem dX0_value_36 : decode cX0_value 36 = .ok (.iload_n 1, 1) := by decide +kernel
theorem dX0_value_37 : decode cX0_value 37 = .ok (.invokevirtual 111, 3) := by decide +kernel
theorem dX0_value_40 : decode cX0_value 40 = .ok (.lreturn, 1) := by decide +kernel
theorem dX0_wrong_0 : decode cX0_wrong 0 = .ok (.aload_n 0, 1) := by decide +kernel
theorem dX0_wrong_1 : decode cX0_wrong 1 = .ok (.getfield 38, 3) := by decide +kernel
theorem dX0_wrong_4 : decode cX0_wrong 4 = .ok (.ifCond .ne 13, 3) := by decide +kernel
theorem dX0_wrong_7 : decode cX0_wrong 7 = .ok (.new 42, 3) := by decide +kernel
theorem dX0_wrong_10 : decode cX0_wrong 10 = .ok (.dup, 1) := by decide +kernel
theorem dX0_wrong_11 : decode cX0_wrong 11 = .ok (.ldc 104, 2) := by decide +kernel
theorem dX0_wrong_13 : decode cX0_wrong 13 = .ok (.invokespecial 46, 3) := by decide +kernel
theorem dX0_wrong_16 : decode cX0_wrong 16 = .ok (.athrow, 1) := by decide +kernel
theorem dX0_wrong_17 : decode cX0_wrong 17 = .ok (.aload_n 0, 1) := by decide +kernel
theorem dX0_wrong_18 : decode cX0_wrong 18 = .ok (.invokevirtual 86, 3) := by decide +kernel
theorem dX0_wrong_21 : decode cX0_wrong 21 = .ok (.ireturn, 1) := by decide +kernel
