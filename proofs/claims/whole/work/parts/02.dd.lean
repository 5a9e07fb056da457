theorem d_T_areNumber_12 : decode b_T_areNumber 12 = .ok (.istore_n 2, 1) := by decide +kernel
theorem d_T_areNumber_13 : decode b_T_areNumber 13 = .ok (.iload_n 2, 1) := by decide +kernel
theorem d_T_areNumber_14 : decode b_T_areNumber 14 = .ok (.istore_n 3, 1) := by decide +kernel
theorem d_T_areNumber_15 : decode b_T_areNumber 15 = .ok (.iload_n 3, 1) := by decide +kernel
theorem d_T_areNumber_16 : decode b_T_areNumber 16 = .ok (.aload_n 0, 1) := by decide +kernel
theorem d_T_areNumber_17 : decode b_T_areNumber 17 = .ok (.getfield 23, 3) := by decide +kernel
theorem d_T_areNumber_20 : decode b_T_areNumber 20 = .ok (.if_icmp .ge 24, 3) := by decide +kernel
theorem d_T_areNumber_23 : decode b_T_areNumber 23 = .ok (.aload_n 0, 1) := by decide +kernel
theorem d_T_areNumber_24 : decode b_T_areNumber 24 = .ok (.getfield 9, 3) := by decide +kernel
theorem d_T_areNumber_27 : decode b_T_areNumber 27 = .ok (.iload_n 3, 1) := by decide +kernel
theorem d_T_areNumber_28 : decode b_T_areNumber 28 = .ok (.baload, 1) := by decide +kernel
theorem d_T_areNumber_29 : decode b_T_areNumber 29 = .ok (.invokestatic 31, 3) := by decide +kernel
theorem d_T_areNumber_32 : decode b_T_areNumber 32 = .ok (.iload_n 1, 1) := by decide +kernel
theorem d_T_areNumber_33 : decode b_T_areNumber 33 = .ok (.if_icmp .lt 5, 3) := by decide +kernel
theorem d_T_areNumber_36 : decode b_T_areNumber 36 = .ok (.iconst 0, 1) := by decide +kernel
theorem d_T_areNumber_37 : decode b_T_areNumber 37 = .ok (.ireturn, 1) := by decide +kernel
theorem d_T_areNumber_38 : decode b_T_areNumber 38 = .ok (.iinc 3 1, 3) := by decide +kernel
theorem d_T_areNumber_41 : decode b_T_areNumber 41 = .ok (.goto (-26), 3) := by decide +kernel
theorem d_T_areNumber_44 : decode b_T_areNumber 44 = .ok (.iload_n 2, 1) := by decide +kernel
theorem d_T_areNumber_45 : decode b_T_areNumber 45 = .ok (.aload_n 0, 1) := by decide +kernel
theorem d_T_areNumber_46 : decode b_T_areNumber 46 = .ok (.getfield 23, 3) := by decide +kernel
theorem d_T_areNumber_49 : decode b_T_areNumber 49 = .ok (.if_icmp .ge 7, 3) := by decide +kernel
theorem d_T_areNumber_52 : decode b_T_areNumber 52 = .ok (.iconst 1, 1) := by decide +kernel
theorem d_T_areNumber_53 : decode b_T_areNumber 53 = .ok (.goto 4, 3) := by decide +kernel
theorem d_T_areNumber_56 : decode b_T_areNumber 56 = .ok (.iconst 0, 1) := by decide +kernel
theorem d_T_areNumber_57 : decode b_T_areNumber 57 = .ok (.ireturn, 1) := by decide +kernel
theorem d_T_digitOf_0 : decode b_T_digitOf 0 = .ok (.iload_n 0, 1) := by decide +kernel
theorem d_T_digitOf_1 : decode b_T_digitOf 1 = .ok (.bipush 48, 2) := by decide +kernel
theorem d_T_digitOf_3 : decode b_T_digitOf 3 = .ok (.if_icmp .lt 14, 3) := by decide +kernel
theorem d_T_digitOf_6 : decode b_T_digitOf 6 = .ok (.iload_n 0, 1) := by decide +kernel
theorem d_T_digitOf_7 : decode b_T_digitOf 7 = .ok (.bipush 57, 2) := by decide +kernel
theorem d_T_digitOf_9 : decode b_T_digitOf 9 = .ok (.if_icmp .gt 8, 3) := by decide +kernel
theorem d_T_digitOf_12 : decode b_T_digitOf 12 = .ok (.iload_n 0, 1) := by decide +kernel
theorem d_T_digitOf_13 : decode b_T_digitOf 13 = .ok (.bipush 48, 2) := by decide +kernel
theorem d_T_digitOf_15 : decode b_T_digitOf 15 = .ok (.isub, 1) := by decide +kernel
theorem d_T_digitOf_16 : decode b_T_digitOf 16 = .ok (.ireturn, 1) := by decide +kernel
theorem d_T_digitOf_17 : decode b_T_digitOf 17 = .ok (.iload_n 0, 1) := by decide +kernel
theorem d_T_digitOf_18 : decode b_T_digitOf 18 = .ok (.bipush 97, 2) := by decide +kernel
theorem d_T_digitOf_20 : decode b_T_digitOf 20 = .ok (.if_icmp .lt 17, 3) := by decide +kernel
theorem d_T_digitOf_23 : decode b_T_digitOf 23 = .ok (.iload_n 0, 1) := by decide +kernel
theorem d_T_digitOf_24 : decode b_T_digitOf 24 = .ok (.bipush 122, 2) := by decide +kernel
theorem d_T_digitOf_26 : decode b_T_digitOf 26 = .ok (.if_icmp .gt 11, 3) := by decide +kernel
theorem d_T_digitOf_29 : decode b_T_digitOf 29 = .ok (.iload_n 0, 1) := by decide +kernel
theorem d_T_digitOf_30 : decode b_T_digitOf 30 = .ok (.bipush 97, 2) := by decide +kernel
theorem d_T_digitOf_32 : decode b_T_digitOf 32 = .ok (.isub, 1) := by decide +kernel
theorem d_T_digitOf_33 : decode b_T_digitOf 33 = .ok (.bipush 10, 2) := by decide +kernel
theorem d_T_digitOf_35 : decode b_T_digitOf 35 = .ok (.iadd, 1) := by decide +kernel
theorem d_T_digitOf_36 : decode b_T_digitOf 36 = .ok (.ireturn, 1) := by decide +kernel
theorem d_T_digitOf_37 : decode b_T_digitOf 37 = .ok (.iload_n 0, 1) := by decide +kernel
theorem d_T_digitOf_38 : decode b_T_digitOf 38 = .ok (.bipush 65, 2) := by decide +kernel
theorem d_T_digitOf_40 : decode b_T_digitOf 40 = .ok (.if_icmp .lt 17, 3) := by decide +kernel
theorem d_T_digitOf_43 : decode b_T_digitOf 43 = .ok (.iload_n 0, 1) := by decide +kernel
theorem d_T_digitOf_44 : decode b_T_digitOf 44 = .ok (.bipush 90, 2) := by decide +kernel
theorem d_T_digitOf_46 : decode b_T_digitOf 46 = .ok (.if_icmp .gt 11, 3) := by decide +kernel
theorem d_T_digitOf_49 : decode b_T_digitOf 49 = .ok (.iload_n 0, 1) := by decide +kernel
theorem d_T_digitOf_50 : decode b_T_digitOf 50 = .ok (.bipush 65, 2) := by decide +kernel
theorem d_T_digitOf_52 : decode b_T_digitOf 52 = .ok (.isub, 1) := by decide +kernel
theorem d_T_digitOf_53 : decode b_T_digitOf 53 = .ok (.bipush 10, 2) := by decide +kernel
theorem d_T_digitOf_55 : decode b_T_digitOf 55 = .ok (.iadd, 1) := by decide +kernel
theorem d_T_digitOf_56 : decode b_T_digitOf 56 = .ok (.ireturn, 1) := by decide +kernel
theorem d_T_digitOf_57 : decode b_T_digitOf 57 = .ok (.bipush 36, 2) := by decide +kernel
theorem d_T_digitOf_59 : decode b_T_digitOf 59 = .ok (.ireturn, 1) := by decide +kernel
theorem d_T_writeTo_0 : decode b_T_writeTo 0 = .ok (.aload_n 1, 1) := by decide +kernel
theorem d_T_writeTo_1 : decode b_T_writeTo 1 = .ok (.lconst 0, 1) := by decide +kernel
theorem d_T_writeTo_2 : decode b_T_writeTo 2 = .ok (.invokevirtual 35, 3) := by decide +kernel
theorem d_T_writeTo_5 : decode b_T_writeTo 5 = .ok (.lconst 1, 1) := by decide +kernel
theorem d_T_writeTo_6 : decode b_T_writeTo 6 = .ok (.lstore_n 3, 1) := by decide +kernel
theorem d_T_writeTo_7 : decode b_T_writeTo 7 = .ok (.lconst 0, 1) := by decide +kernel
theorem d_T_writeTo_8 : decode b_T_writeTo 8 = .ok (.lstore 5, 2) := by decide +kernel
theorem d_T_writeTo_10 : decode b_T_writeTo 10 = .ok (.aload_n 0, 1) := by decide +kernel
theorem d_T_writeTo_11 : decode b_T_writeTo 11 = .ok (.invokevirtual 27, 3) := by decide +kernel
theorem d_T_writeTo_14 : decode b_T_writeTo 14 = .ok (.ifCond .eq 7, 3) := by decide +kernel
theorem d_T_writeTo_17 : decode b_T_writeTo 17 = .ok (.iconst 1, 1) := by decide +kernel
theorem d_T_writeTo_18 : decode b_T_writeTo 18 = .ok (.goto 4, 3) := by decide +kernel
theorem d_T_writeTo_21 : decode b_T_writeTo 21 = .ok (.iconst 0, 1) := by decide +kernel
theorem d_T_writeTo_22 : decode b_T_writeTo 22 = .ok (.istore 7, 2) := by decide +kernel
theorem d_T_writeTo_24 : decode b_T_writeTo 24 = .ok (.iload 7, 2) := by decide +kernel
theorem d_T_writeTo_26 : decode b_T_writeTo 26 = .ok (.aload_n 0, 1) := by decide +kernel
theorem d_T_writeTo_27 : decode b_T_writeTo 27 = .ok (.getfield 23, 3) := by decide +kernel
theorem d_T_writeTo_30 : decode b_T_writeTo 30 = .ok (.if_icmp .ge 76, 3) := by decide +kernel
theorem d_T_writeTo_33 : decode b_T_writeTo 33 = .ok (.aload_n 1, 1) := by decide +kernel
theorem d_T_writeTo_34 : decode b_T_writeTo 34 = .ok (.getfield 41, 3) := by decide +kernel
theorem d_T_writeTo_37 : decode b_T_writeTo 37 = .ok (.bipush 67, 2) := by decide +kernel
theorem d_T_writeTo_39 : decode b_T_writeTo 39 = .ok (.if_icmp .gt 67, 3) := by decide +kernel
theorem d_T_writeTo_42 : decode b_T_writeTo 42 = .ok (.lload_n 3, 1) := by decide +kernel
theorem d_T_writeTo_43 : decode b_T_writeTo 43 = .ok (.iload_n 2, 1) := by decide +kernel
theorem d_T_writeTo_44 : decode b_T_writeTo 44 = .ok (.i2l, 1) := by decide +kernel
theorem d_T_writeTo_45 : decode b_T_writeTo 45 = .ok (.lmul, 1) := by decide +kernel
theorem d_T_writeTo_46 : decode b_T_writeTo 46 = .ok (.lstore_n 3, 1) := by decide +kernel
theorem d_T_writeTo_47 : decode b_T_writeTo 47 = .ok (.lload 5, 2) := by decide +kernel
theorem d_T_writeTo_49 : decode b_T_writeTo 49 = .ok (.iload_n 2, 1) := by decide +kernel
theorem d_T_writeTo_50 : decode b_T_writeTo 50 = .ok (.i2l, 1) := by decide +kernel
theorem d_T_writeTo_51 : decode b_T_writeTo 51 = .ok (.lmul, 1) := by decide +kernel
theorem d_T_writeTo_52 : decode b_T_writeTo 52 = .ok (.aload_n 0, 1) := by decide +kernel
theorem d_T_writeTo_53 : decode b_T_writeTo 53 = .ok (.getfield 9, 3) := by decide +kernel
theorem d_T_writeTo_56 : decode b_T_writeTo 56 = .ok (.iload 7, 2) := by decide +kernel
theorem d_T_writeTo_58 : decode b_T_writeTo 58 = .ok (.baload, 1) := by decide +kernel
theorem d_T_writeTo_59 : decode b_T_writeTo 59 = .ok (.invokestatic 31, 3) := by decide +kernel
theorem d_T_writeTo_62 : decode b_T_writeTo 62 = .ok (.i2l, 1) := by decide +kernel
theorem d_T_writeTo_63 : decode b_T_writeTo 63 = .ok (.ladd, 1) := by decide +kernel
theorem d_T_writeTo_64 : decode b_T_writeTo 64 = .ok (.lstore 5, 2) := by decide +kernel
theorem d_T_writeTo_66 : decode b_T_writeTo 66 = .ok (.lload_n 3, 1) := by decide +kernel
theorem d_T_writeTo_67 : decode b_T_writeTo 67 = .ok (.iload_n 2, 1) := by decide +kernel
theorem d_T_writeTo_68 : decode b_T_writeTo 68 = .ok (.i2l, 1) := by decide +kernel
theorem d_T_writeTo_69 : decode b_T_writeTo 69 = .ok (.lmul, 1) := by decide +kernel
theorem d_T_writeTo_70 : decode b_T_writeTo 70 = .ok (.ldc2_w 44, 3) := by decide +kernel
theorem d_T_writeTo_73 : decode b_T_writeTo 73 = .ok (.lcmp, 1) := by decide +kernel
theorem d_T_writeTo_74 : decode b_T_writeTo 74 = .ok (.ifCond .gt 14, 3) := by decide +kernel
theorem d_T_writeTo_77 : decode b_T_writeTo 77 = .ok (.iload 7, 2) := by decide +kernel
theorem d_T_writeTo_79 : decode b_T_writeTo 79 = .ok (.aload_n 0, 1) := by decide +kernel
theorem d_T_writeTo_80 : decode b_T_writeTo 80 = .ok (.getfield 23, 3) := by decide +kernel
theorem d_T_writeTo_83 : decode b_T_writeTo 83 = .ok (.iconst 1, 1) := by decide +kernel
theorem d_T_writeTo_84 : decode b_T_writeTo 84 = .ok (.isub, 1) := by decide +kernel
theorem d_T_writeTo_85 : decode b_T_writeTo 85 = .ok (.if_icmp .ne 15, 3) := by decide +kernel
theorem d_T_writeTo_88 : decode b_T_writeTo 88 = .ok (.aload_n 1, 1) := by decide +kernel
theorem d_T_writeTo_89 : decode b_T_writeTo 89 = .ok (.lload_n 3, 1) := by decide +kernel
theorem d_T_writeTo_90 : decode b_T_writeTo 90 = .ok (.lload 5, 2) := by decide +kernel
theorem d_T_writeTo_92 : decode b_T_writeTo 92 = .ok (.invokevirtual 46, 3) := by decide +kernel
theorem d_T_writeTo_95 : decode b_T_writeTo 95 = .ok (.lconst 1, 1) := by decide +kernel
theorem d_T_writeTo_96 : decode b_T_writeTo 96 = .ok (.lstore_n 3, 1) := by decide +kernel
theorem d_T_writeTo_97 : decode b_T_writeTo 97 = .ok (.lconst 0, 1) := by decide +kernel
theorem d_T_writeTo_98 : decode b_T_writeTo 98 = .ok (.lstore 5, 2) := by decide +kernel
theorem d_T_writeTo_100 : decode b_T_writeTo 100 = .ok (.iinc 7 1, 3) := by decide +kernel
theorem d_T_writeTo_103 : decode b_T_writeTo 103 = .ok (.goto (-79), 3) := by decide +kernel
theorem d_T_writeTo_106 : decode b_T_writeTo 106 = .ok (.aload_n 1, 1) := by decide +kernel
theorem d_T_writeTo_107 : decode b_T_writeTo 107 = .ok (.aload_n 0, 1) := by decide +kernel
theorem d_T_writeTo_108 : decode b_T_writeTo 108 = .ok (.invokevirtual 27, 3) := by decide +kernel
theorem d_T_writeTo_111 : decode b_T_writeTo 111 = .ok (.invokevirtual 50, 3) := by decide +kernel
theorem d_T_writeTo_114 : decode b_T_writeTo 114 = .ok (.return_, 1) := by decide +kernel
theorem d_T_takeNumber_0 : decode b_T_takeNumber 0 = .ok (.aload_n 1, 1) := by decide +kernel
theorem d_T_takeNumber_1 : decode b_T_takeNumber 1 = .ok (.getfield 54, 3) := by decide +kernel
theorem d_T_takeNumber_4 : decode b_T_takeNumber 4 = .ok (.istore_n 3, 1) := by decide +kernel
theorem d_T_takeNumber_5 : decode b_T_takeNumber 5 = .ok (.iload_n 2, 1) := by decide +kernel
theorem d_T_takeNumber_6 : decode b_T_takeNumber 6 = .ok (.invokestatic 58, 3) := by decide +kernel
theorem d_T_takeNumber_9 : decode b_T_takeNumber 9 = .ok (.istore 4, 2) := by decide +kernel
theorem d_T_takeNumber_11 : decode b_T_takeNumber 11 = .ok (.iload_n 2, 1) := by decide +kernel
theorem d_T_takeNumber_12 : decode b_T_takeNumber 12 = .ok (.iload 4, 2) := by decide +kernel
theorem d_T_takeNumber_14 : decode b_T_takeNumber 14 = .ok (.invokestatic 61, 3) := by decide +kernel
theorem d_T_takeNumber_17 : decode b_T_takeNumber 17 = .ok (.istore 5, 2) := by decide +kernel
theorem d_T_takeNumber_19 : decode b_T_takeNumber 19 = .ok (.aload_n 0, 1) := by decide +kernel
theorem d_T_takeNumber_20 : decode b_T_takeNumber 20 = .ok (.iconst 0, 1) := by decide +kernel
theorem d_T_takeNumber_21 : decode b_T_takeNumber 21 = .ok (.putfield 23, 3) := by decide +kernel
theorem d_T_takeNumber_24 : decode b_T_takeNumber 24 = .ok (.iconst 0, 1) := by decide +kernel
theorem d_T_takeNumber_25 : decode b_T_takeNumber 25 = .ok (.istore 6, 2) := by decide +kernel
theorem d_T_takeNumber_27 : decode b_T_takeNumber 27 = .ok (.iload 6, 2) := by decide +kernel
theorem d_T_takeNumber_29 : decode b_T_takeNumber 29 = .ok (.sipush 2100, 3) := by decide +kernel
theorem d_T_takeNumber_32 : decode b_T_takeNumber 32 = .ok (.if_icmp .ge 44, 3) := by decide +kernel
theorem d_T_takeNumber_35 : decode b_T_takeNumber 35 = .ok (.aload_n 1, 1) := by decide +kernel
theorem d_T_takeNumber_36 : decode b_T_takeNumber 36 = .ok (.getfield 41, 3) := by decide +kernel
theorem d_T_takeNumber_39 : decode b_T_takeNumber 39 = .ok (.ifCond .le 37, 3) := by decide +kernel
theorem d_T_takeNumber_42 : decode b_T_takeNumber 42 = .ok (.aload_n 1, 1) := by decide +kernel
theorem d_T_takeNumber_43 : decode b_T_takeNumber 43 = .ok (.iload 5, 2) := by decide +kernel
theorem d_T_takeNumber_45 : decode b_T_takeNumber 45 = .ok (.invokevirtual 65, 3) := by decide +kernel
theorem d_T_takeNumber_48 : decode b_T_takeNumber 48 = .ok (.istore 7, 2) := by decide +kernel
theorem d_T_takeNumber_50 : decode b_T_takeNumber 50 = .ok (.aload_n 0, 1) := by decide +kernel
theorem d_T_takeNumber_51 : decode b_T_takeNumber 51 = .ok (.iload 7, 2) := by decide +kernel
theorem d_T_takeNumber_53 : decode b_T_takeNumber 53 = .ok (.iload_n 2, 1) := by decide +kernel
theorem d_T_takeNumber_54 : decode b_T_takeNumber 54 = .ok (.aload_n 1, 1) := by decide +kernel
theorem d_T_takeNumber_55 : decode b_T_takeNumber 55 = .ok (.getfield 41, 3) := by decide +kernel
theorem d_T_takeNumber_58 : decode b_T_takeNumber 58 = .ok (.ifCond .le 8, 3) := by decide +kernel
theorem d_T_takeNumber_61 : decode b_T_takeNumber 61 = .ok (.iload 4, 2) := by decide +kernel
theorem d_T_takeNumber_63 : decode b_T_takeNumber 63 = .ok (.goto 4, 3) := by decide +kernel
theorem d_T_takeNumber_66 : decode b_T_takeNumber 66 = .ok (.iconst 0, 1) := by decide +kernel
theorem d_T_takeNumber_67 : decode b_T_takeNumber 67 = .ok (.invokevirtual 68, 3) := by decide +kernel
theorem d_T_takeNumber_70 : decode b_T_takeNumber 70 = .ok (.iinc 6 1, 3) := by decide +kernel
theorem d_T_takeNumber_73 : decode b_T_takeNumber 73 = .ok (.goto (-46), 3) := by decide +kernel
theorem d_T_takeNumber_76 : decode b_T_takeNumber 76 = .ok (.aload_n 0, 1) := by decide +kernel
theorem d_T_takeNumber_77 : decode b_T_takeNumber 77 = .ok (.getfield 23, 3) := by decide +kernel
theorem d_T_takeNumber_80 : decode b_T_takeNumber 80 = .ok (.ifCond .ne 9, 3) := by decide +kernel
theorem d_T_takeNumber_83 : decode b_T_takeNumber 83 = .ok (.aload_n 0, 1) := by decide +kernel
theorem d_T_takeNumber_84 : decode b_T_takeNumber 84 = .ok (.bipush 48, 2) := by decide +kernel
theorem d_T_takeNumber_86 : decode b_T_takeNumber 86 = .ok (.invokevirtual 19, 3) := by decide +kernel
theorem d_T_takeNumber_89 : decode b_T_takeNumber 89 = .ok (.iload_n 3, 1) := by decide +kernel
theorem d_T_takeNumber_90 : decode b_T_takeNumber 90 = .ok (.ifCond .eq 9, 3) := by decide +kernel
theorem d_T_takeNumber_93 : decode b_T_takeNumber 93 = .ok (.aload_n 0, 1) := by decide +kernel
theorem d_T_takeNumber_94 : decode b_T_takeNumber 94 = .ok (.bipush 45, 2) := by decide +kernel
theorem d_T_takeNumber_96 : decode b_T_takeNumber 96 = .ok (.invokevirtual 19, 3) := by decide +kernel
theorem d_T_takeNumber_99 : decode b_T_takeNumber 99 = .ok (.aload_n 0, 1) := by decide +kernel
theorem d_T_takeNumber_100 : decode b_T_takeNumber 100 = .ok (.invokevirtual 72, 3) := by decide +kernel
theorem d_T_takeNumber_103 : decode b_T_takeNumber 103 = .ok (.return_, 1) := by decide +kernel
theorem d_T_digitsInLimb_0 : decode b_T_digitsInLimb 0 = .ok (.iload_n 0, 1) := by decide +kernel
theorem d_T_digitsInLimb_1 : decode b_T_digitsInLimb 1 = .ok (.i2l, 1) := by decide +kernel
theorem d_T_digitsInLimb_2 : decode b_T_digitsInLimb 2 = .ok (.lstore_n 1, 1) := by decide +kernel
theorem d_T_digitsInLimb_3 : decode b_T_digitsInLimb 3 = .ok (.iconst 1, 1) := by decide +kernel
theorem d_T_digitsInLimb_4 : decode b_T_digitsInLimb 4 = .ok (.istore_n 3, 1) := by decide +kernel
theorem d_T_digitsInLimb_5 : decode b_T_digitsInLimb 5 = .ok (.iload_n 3, 1) := by decide +kernel
theorem d_T_digitsInLimb_6 : decode b_T_digitsInLimb 6 = .ok (.bipush 31, 2) := by decide +kernel
theorem d_T_digitsInLimb_8 : decode b_T_digitsInLimb 8 = .ok (.if_icmp .ge 25, 3) := by decide +kernel
theorem d_T_digitsInLimb_11 : decode b_T_digitsInLimb 11 = .ok (.lload_n 1, 1) := by decide +kernel
theorem d_T_digitsInLimb_12 : decode b_T_digitsInLimb 12 = .ok (.iload_n 0, 1) := by decide +kernel
theorem d_T_digitsInLimb_13 : decode b_T_digitsInLimb 13 = .ok (.i2l, 1) := by decide +kernel
theorem d_T_digitsInLimb_14 : decode b_T_digitsInLimb 14 = .ok (.lmul, 1) := by decide +kernel
theorem d_T_digitsInLimb_15 : decode b_T_digitsInLimb 15 = .ok (.ldc2_w 44, 3) := by decide +kernel
theorem d_T_digitsInLimb_18 : decode b_T_digitsInLimb 18 = .ok (.lcmp, 1) := by decide +kernel
theorem d_T_digitsInLimb_19 : decode b_T_digitsInLimb 19 = .ok (.ifCond .gt 14, 3) := by decide +kernel
theorem d_T_digitsInLimb_22 : decode b_T_digitsInLimb 22 = .ok (.lload_n 1, 1) := by decide +kernel
theorem d_T_digitsInLimb_23 : decode b_T_digitsInLimb 23 = .ok (.iload_n 0, 1) := by decide +kernel
theorem d_T_digitsInLimb_24 : decode b_T_digitsInLimb 24 = .ok (.i2l, 1) := by decide +kernel
theorem d_T_digitsInLimb_25 : decode b_T_digitsInLimb 25 = .ok (.lmul, 1) := by decide +kernel
theorem d_T_digitsInLimb_26 : decode b_T_digitsInLimb 26 = .ok (.lstore_n 1, 1) := by decide +kernel
theorem d_T_digitsInLimb_27 : decode b_T_digitsInLimb 27 = .ok (.iinc 3 1, 3) := by decide +kernel
theorem d_T_digitsInLimb_30 : decode b_T_digitsInLimb 30 = .ok (.goto (-25), 3) := by decide +kernel
theorem d_T_digitsInLimb_33 : decode b_T_digitsInLimb 33 = .ok (.iload_n 3, 1) := by decide +kernel
theorem d_T_digitsInLimb_34 : decode b_T_digitsInLimb 34 = .ok (.ireturn, 1) := by decide +kernel
theorem d_T_powerOf_0 : decode b_T_powerOf 0 = .ok (.iconst 1, 1) := by decide +kernel
theorem d_T_powerOf_1 : decode b_T_powerOf 1 = .ok (.istore_n 2, 1) := by decide +kernel
theorem d_T_powerOf_2 : decode b_T_powerOf 2 = .ok (.iconst 0, 1) := by decide +kernel
theorem d_T_powerOf_3 : decode b_T_powerOf 3 = .ok (.istore_n 3, 1) := by decide +kernel
theorem d_T_powerOf_4 : decode b_T_powerOf 4 = .ok (.iload_n 3, 1) := by decide +kernel
theorem d_T_powerOf_5 : decode b_T_powerOf 5 = .ok (.iload_n 1, 1) := by decide +kernel
theorem d_T_powerOf_6 : decode b_T_powerOf 6 = .ok (.if_icmp .ge 13, 3) := by decide +kernel
theorem d_T_powerOf_9 : decode b_T_powerOf 9 = .ok (.iload_n 2, 1) := by decide +kernel
theorem d_T_powerOf_10 : decode b_T_powerOf 10 = .ok (.iload_n 0, 1) := by decide +kernel
theorem d_T_powerOf_11 : decode b_T_powerOf 11 = .ok (.imul, 1) := by decide +kernel
theorem d_T_powerOf_12 : decode b_T_powerOf 12 = .ok (.istore_n 2, 1) := by decide +kernel
theorem d_T_powerOf_13 : decode b_T_powerOf 13 = .ok (.iinc 3 1, 3) := by decide +kernel
theorem d_T_powerOf_16 : decode b_T_powerOf 16 = .ok (.goto (-12), 3) := by decide +kernel
theorem d_T_powerOf_19 : decode b_T_powerOf 19 = .ok (.iload_n 2, 1) := by decide +kernel
theorem d_T_powerOf_20 : decode b_T_powerOf 20 = .ok (.ireturn, 1) := by decide +kernel
theorem d_T_putDigits_0 : decode b_T_putDigits 0 = .ok (.iload_n 1, 1) := by decide +kernel
theorem d_T_putDigits_1 : decode b_T_putDigits 1 = .ok (.istore 4, 2) := by decide +kernel
theorem d_T_putDigits_3 : decode b_T_putDigits 3 = .ok (.iconst 0, 1) := by decide +kernel
theorem d_T_putDigits_4 : decode b_T_putDigits 4 = .ok (.istore 5, 2) := by decide +kernel
theorem d_T_putDigits_6 : decode b_T_putDigits 6 = .ok (.iload 5, 2) := by decide +kernel
theorem d_T_putDigits_8 : decode b_T_putDigits 8 = .ok (.bipush 31, 2) := by decide +kernel
theorem d_T_putDigits_10 : decode b_T_putDigits 10 = .ok (.if_icmp .ge 39, 3) := by decide +kernel
theorem d_T_putDigits_13 : decode b_T_putDigits 13 = .ok (.iload 5, 2) := by decide +kernel
theorem d_T_putDigits_15 : decode b_T_putDigits 15 = .ok (.iload_n 3, 1) := by decide +kernel
theorem d_T_putDigits_16 : decode b_T_putDigits 16 = .ok (.if_icmp .lt 8, 3) := by decide +kernel
theorem d_T_putDigits_19 : decode b_T_putDigits 19 = .ok (.iload 4, 2) := by decide +kernel
theorem d_T_putDigits_21 : decode b_T_putDigits 21 = .ok (.ifCond .le 28, 3) := by decide +kernel
theorem d_T_putDigits_24 : decode b_T_putDigits 24 = .ok (.aload_n 0, 1) := by decide +kernel
theorem d_T_putDigits_25 : decode b_T_putDigits 25 = .ok (.ldc 75, 2) := by decide +kernel
theorem d_T_putDigits_27 : decode b_T_putDigits 27 = .ok (.iload 4, 2) := by decide +kernel
theorem d_T_putDigits_29 : decode b_T_putDigits 29 = .ok (.iload_n 2, 1) := by decide +kernel
theorem d_T_putDigits_30 : decode b_T_putDigits 30 = .ok (.irem, 1) := by decide +kernel
theorem d_T_putDigits_31 : decode b_T_putDigits 31 = .ok (.invokevirtual 77, 3) := by decide +kernel
theorem d_T_putDigits_34 : decode b_T_putDigits 34 = .ok (.invokevirtual 19, 3) := by decide +kernel
theorem d_T_putDigits_37 : decode b_T_putDigits 37 = .ok (.iload 4, 2) := by decide +kernel
theorem d_T_putDigits_39 : decode b_T_putDigits 39 = .ok (.iload_n 2, 1) := by decide +kernel
theorem d_T_putDigits_40 : decode b_T_putDigits 40 = .ok (.idiv, 1) := by decide +kernel
theorem d_T_putDigits_41 : decode b_T_putDigits 41 = .ok (.istore 4, 2) := by decide +kernel
theorem d_T_putDigits_43 : decode b_T_putDigits 43 = .ok (.iinc 5 1, 3) := by decide +kernel
theorem d_T_putDigits_46 : decode b_T_putDigits 46 = .ok (.goto (-40), 3) := by decide +kernel
theorem d_T_putDigits_49 : decode b_T_putDigits 49 = .ok (.return_, 1) := by decide +kernel
theorem d_T_turnRound_0 : decode b_T_turnRound 0 = .ok (.iconst 0, 1) := by decide +kernel
theorem d_T_turnRound_1 : decode b_T_turnRound 1 = .ok (.istore_n 1, 1) := by decide +kernel
theorem d_T_turnRound_2 : decode b_T_turnRound 2 = .ok (.iload_n 1, 1) := by decide +kernel
theorem d_T_turnRound_3 : decode b_T_turnRound 3 = .ok (.aload_n 0, 1) := by decide +kernel
theorem d_T_turnRound_4 : decode b_T_turnRound 4 = .ok (.getfield 23, 3) := by decide +kernel
theorem d_T_turnRound_7 : decode b_T_turnRound 7 = .ok (.iconst 2, 1) := by decide +kernel
theorem d_T_turnRound_8 : decode b_T_turnRound 8 = .ok (.idiv, 1) := by decide +kernel
theorem d_T_turnRound_9 : decode b_T_turnRound 9 = .ok (.if_icmp .ge 49, 3) := by decide +kernel
theorem d_T_turnRound_12 : decode b_T_turnRound 12 = .ok (.aload_n 0, 1) := by decide +kernel
theorem d_T_turnRound_13 : decode b_T_turnRound 13 = .ok (.getfield 9, 3) := by decide +kernel
theorem d_T_turnRound_16 : decode b_T_turnRound 16 = .ok (.iload_n 1, 1) := by decide +kernel
theorem d_T_turnRound_17 : decode b_T_turnRound 17 = .ok (.baload, 1) := by decide +kernel
theorem d_T_turnRound_18 : decode b_T_turnRound 18 = .ok (.istore_n 2, 1) := by decide +kernel
theorem d_T_turnRound_19 : decode b_T_turnRound 19 = .ok (.aload_n 0, 1) := by decide +kernel
theorem d_T_turnRound_20 : decode b_T_turnRound 20 = .ok (.getfield 9, 3) := by decide +kernel
theorem d_T_turnRound_23 : decode b_T_turnRound 23 = .ok (.iload_n 1, 1) := by decide +kernel
theorem d_T_turnRound_24 : decode b_T_turnRound 24 = .ok (.aload_n 0, 1) := by decide +kernel
theorem d_T_turnRound_25 : decode b_T_turnRound 25 = .ok (.getfield 9, 3) := by decide +kernel
theorem d_T_turnRound_28 : decode b_T_turnRound 28 = .ok (.aload_n 0, 1) := by decide +kernel
theorem d_T_turnRound_29 : decode b_T_turnRound 29 = .ok (.getfield 23, 3) := by decide +kernel
theorem d_T_turnRound_32 : decode b_T_turnRound 32 = .ok (.iconst 1, 1) := by decide +kernel
theorem d_T_turnRound_33 : decode b_T_turnRound 33 = .ok (.isub, 1) := by decide +kernel
theorem d_T_turnRound_34 : decode b_T_turnRound 34 = .ok (.iload_n 1, 1) := by decide +kernel
theorem d_T_turnRound_35 : decode b_T_turnRound 35 = .ok (.isub, 1) := by decide +kernel
theorem d_T_turnRound_36 : decode b_T_turnRound 36 = .ok (.baload, 1) := by decide +kernel
theorem d_T_turnRound_37 : decode b_T_turnRound 37 = .ok (.bastore, 1) := by decide +kernel
theorem d_T_turnRound_38 : decode b_T_turnRound 38 = .ok (.aload_n 0, 1) := by decide +kernel
theorem d_T_turnRound_39 : decode b_T_turnRound 39 = .ok (.getfield 9, 3) := by decide +kernel
theorem d_T_turnRound_42 : decode b_T_turnRound 42 = .ok (.aload_n 0, 1) := by decide +kernel
theorem d_T_turnRound_43 : decode b_T_turnRound 43 = .ok (.getfield 23, 3) := by decide +kernel
theorem d_T_turnRound_46 : decode b_T_turnRound 46 = .ok (.iconst 1, 1) := by decide +kernel
theorem d_T_turnRound_47 : decode b_T_turnRound 47 = .ok (.isub, 1) := by decide +kernel
theorem d_T_turnRound_48 : decode b_T_turnRound 48 = .ok (.iload_n 1, 1) := by decide +kernel
theorem d_T_turnRound_49 : decode b_T_turnRound 49 = .ok (.isub, 1) := by decide +kernel
theorem d_T_turnRound_50 : decode b_T_turnRound 50 = .ok (.iload_n 2, 1) := by decide +kernel
theorem d_T_turnRound_51 : decode b_T_turnRound 51 = .ok (.bastore, 1) := by decide +kernel
theorem d_T_turnRound_52 : decode b_T_turnRound 52 = .ok (.iinc 1 1, 3) := by decide +kernel
theorem d_T_turnRound_55 : decode b_T_turnRound 55 = .ok (.goto (-53), 3) := by decide +kernel
theorem d_T_turnRound_58 : decode b_T_turnRound 58 = .ok (.return_, 1) := by decide +kernel
theorem d_K_init_0 : decode b_K_init 0 = .ok (.aload_n 0, 1) := by decide +kernel
theorem d_K_init_1 : decode b_K_init 1 = .ok (.invokespecial 3, 3) := by decide +kernel
theorem d_K_init_4 : decode b_K_init 4 = .ok (.aload_n 0, 1) := by decide +kernel
theorem d_K_init_5 : decode b_K_init 5 = .ok (.bipush 16, 2) := by decide +kernel
theorem d_K_init_7 : decode b_K_init 7 = .ok (.anewarray 9, 3) := by decide +kernel
theorem d_K_init_10 : decode b_K_init 10 = .ok (.putfield 11, 3) := by decide +kernel
theorem d_K_init_13 : decode b_K_init 13 = .ok (.iconst 0, 1) := by decide +kernel
theorem d_K_init_14 : decode b_K_init 14 = .ok (.istore_n 1, 1) := by decide +kernel
theorem d_K_init_15 : decode b_K_init 15 = .ok (.iload_n 1, 1) := by decide +kernel
theorem d_K_init_16 : decode b_K_init 16 = .ok (.bipush 16, 2) := by decide +kernel
theorem d_K_init_18 : decode b_K_init 18 = .ok (.if_icmp .ge 24, 3) := by decide +kernel
theorem d_K_init_21 : decode b_K_init 21 = .ok (.aload_n 0, 1) := by decide +kernel
theorem d_K_init_22 : decode b_K_init 22 = .ok (.getfield 11, 3) := by decide +kernel
theorem d_K_init_25 : decode b_K_init 25 = .ok (.iload_n 1, 1) := by decide +kernel
theorem d_K_init_26 : decode b_K_init 26 = .ok (.new 9, 3) := by decide +kernel
theorem d_K_init_29 : decode b_K_init 29 = .ok (.dup, 1) := by decide +kernel
theorem d_K_init_30 : decode b_K_init 30 = .ok (.bipush 67, 2) := by decide +kernel
theorem d_K_init_32 : decode b_K_init 32 = .ok (.invokespecial 15, 3) := by decide +kernel
theorem d_K_init_35 : decode b_K_init 35 = .ok (.aastore, 1) := by decide +kernel
theorem d_K_init_36 : decode b_K_init 36 = .ok (.iinc 1 1, 3) := by decide +kernel
theorem d_K_init_39 : decode b_K_init 39 = .ok (.goto (-24), 3) := by decide +kernel
theorem d_K_init_42 : decode b_K_init 42 = .ok (.aload_n 0, 1) := by decide +kernel
theorem d_K_init_43 : decode b_K_init 43 = .ok (.new 18, 3) := by decide +kernel
theorem d_K_init_46 : decode b_K_init 46 = .ok (.dup, 1) := by decide +kernel
theorem d_K_init_47 : decode b_K_init 47 = .ok (.invokespecial 20, 3) := by decide +kernel
theorem d_K_init_50 : decode b_K_init 50 = .ok (.putfield 21, 3) := by decide +kernel
theorem d_K_init_53 : decode b_K_init 53 = .ok (.aload_n 0, 1) := by decide +kernel
theorem d_K_init_54 : decode b_K_init 54 = .ok (.new 25, 3) := by decide +kernel
theorem d_K_init_57 : decode b_K_init 57 = .ok (.dup, 1) := by decide +kernel
theorem d_K_init_58 : decode b_K_init 58 = .ok (.invokespecial 27, 3) := by decide +kernel
theorem d_K_init_61 : decode b_K_init 61 = .ok (.putfield 28, 3) := by decide +kernel
theorem d_K_init_64 : decode b_K_init 64 = .ok (.aload_n 0, 1) := by decide +kernel
theorem d_K_init_65 : decode b_K_init 65 = .ok (.new 9, 3) := by decide +kernel
theorem d_K_init_68 : decode b_K_init 68 = .ok (.dup, 1) := by decide +kernel
theorem d_K_init_69 : decode b_K_init 69 = .ok (.sipush 135, 3) := by decide +kernel
theorem d_K_init_72 : decode b_K_init 72 = .ok (.invokespecial 15, 3) := by decide +kernel
theorem d_K_init_75 : decode b_K_init 75 = .ok (.putfield 32, 3) := by decide +kernel
theorem d_K_init_78 : decode b_K_init 78 = .ok (.aload_n 0, 1) := by decide +kernel
theorem d_K_init_79 : decode b_K_init 79 = .ok (.new 9, 3) := by decide +kernel
theorem d_K_init_82 : decode b_K_init 82 = .ok (.dup, 1) := by decide +kernel
theorem d_K_init_83 : decode b_K_init 83 = .ok (.sipush 135, 3) := by decide +kernel
theorem d_K_init_86 : decode b_K_init 86 = .ok (.invokespecial 15, 3) := by decide +kernel
theorem d_K_init_89 : decode b_K_init 89 = .ok (.putfield 36, 3) := by decide +kernel
theorem d_K_init_92 : decode b_K_init 92 = .ok (.aload_n 0, 1) := by decide +kernel
theorem d_K_init_93 : decode b_K_init 93 = .ok (.new 9, 3) := by decide +kernel
theorem d_K_init_96 : decode b_K_init 96 = .ok (.dup, 1) := by decide +kernel
theorem d_K_init_97 : decode b_K_init 97 = .ok (.bipush 67, 2) := by decide +kernel
theorem d_K_init_99 : decode b_K_init 99 = .ok (.invokespecial 15, 3) := by decide +kernel
theorem d_K_init_102 : decode b_K_init 102 = .ok (.putfield 39, 3) := by decide +kernel
theorem d_K_init_105 : decode b_K_init 105 = .ok (.return_, 1) := by decide +kernel
theorem d_K_set_0 : decode b_K_set 0 = .ok (.iload_n 1, 1) := by decide +kernel
theorem d_K_set_1 : decode b_K_set 1 = .ok (.invokestatic 42, 3) := by decide +kernel
theorem d_K_set_4 : decode b_K_set 4 = .ok (.aload_n 0, 1) := by decide +kernel
theorem d_K_set_5 : decode b_K_set 5 = .ok (.getfield 11, 3) := by decide +kernel
theorem d_K_set_8 : decode b_K_set 8 = .ok (.iload_n 1, 1) := by decide +kernel
theorem d_K_set_9 : decode b_K_set 9 = .ok (.aaload, 1) := by decide +kernel
theorem d_K_set_10 : decode b_K_set 10 = .ok (.invokevirtual 45, 3) := by decide +kernel
theorem d_K_set_13 : decode b_K_set 13 = .ok (.istore 4, 2) := by decide +kernel
theorem d_K_set_15 : decode b_K_set 15 = .ok (.aload_n 0, 1) := by decide +kernel
theorem d_K_set_16 : decode b_K_set 16 = .ok (.getfield 11, 3) := by decide +kernel
theorem d_K_set_19 : decode b_K_set 19 = .ok (.iload_n 1, 1) := by decide +kernel
theorem d_K_set_20 : decode b_K_set 20 = .ok (.aaload, 1) := by decide +kernel
theorem d_K_set_21 : decode b_K_set 21 = .ok (.lload_n 2, 1) := by decide +kernel
theorem d_K_set_22 : decode b_K_set 22 = .ok (.invokevirtual 49, 3) := by decide +kernel
theorem d_K_set_25 : decode b_K_set 25 = .ok (.iload 4, 2) := by decide +kernel
theorem d_K_set_27 : decode b_K_set 27 = .ok (.ireturn, 1) := by decide +kernel
theorem d_K_line_0 : decode b_K_line 0 = .ok (.lload_n 1, 1) := by decide +kernel
theorem d_K_line_1 : decode b_K_line 1 = .ok (.invokestatic 53, 3) := by decide +kernel
theorem d_K_line_4 : decode b_K_line 4 = .ok (.istore_n 3, 1) := by decide +kernel
theorem d_K_line_5 : decode b_K_line 5 = .ok (.iload_n 3, 1) := by decide +kernel
theorem d_K_line_6 : decode b_K_line 6 = .ok (.ifCond .ne 13, 3) := by decide +kernel
theorem d_K_line_9 : decode b_K_line 9 = .ok (.new 57, 3) := by decide +kernel
theorem d_K_line_12 : decode b_K_line 12 = .ok (.dup, 1) := by decide +kernel
theorem d_K_line_13 : decode b_K_line 13 = .ok (.ldc 59, 2) := by decide +kernel
theorem d_K_line_15 : decode b_K_line 15 = .ok (.invokespecial 61, 3) := by decide +kernel
theorem d_K_line_18 : decode b_K_line 18 = .ok (.athrow, 1) := by decide +kernel
theorem d_K_line_19 : decode b_K_line 19 = .ok (.aload_n 0, 1) := by decide +kernel
theorem d_K_line_20 : decode b_K_line 20 = .ok (.getfield 21, 3) := by decide +kernel
theorem d_K_line_23 : decode b_K_line 23 = .ok (.getfield 64, 3) := by decide +kernel
theorem d_K_line_26 : decode b_K_line 26 = .ok (.iload_n 3, 1) := by decide +kernel
theorem d_K_line_27 : decode b_K_line 27 = .ok (.iadd, 1) := by decide +kernel
theorem d_K_line_28 : decode b_K_line 28 = .ok (.sipush 2100, 3) := by decide +kernel
theorem d_K_line_31 : decode b_K_line 31 = .ok (.if_icmp .le 13, 3) := by decide +kernel
theorem d_K_line_34 : decode b_K_line 34 = .ok (.new 68, 3) := by decide +kernel
theorem d_K_line_37 : decode b_K_line 37 = .ok (.dup, 1) := by decide +kernel
theorem d_K_line_38 : decode b_K_line 38 = .ok (.ldc 70, 2) := by decide +kernel
theorem d_K_line_40 : decode b_K_line 40 = .ok (.invokespecial 72, 3) := by decide +kernel
theorem d_K_line_43 : decode b_K_line 43 = .ok (.athrow, 1) := by decide +kernel
theorem d_K_line_44 : decode b_K_line 44 = .ok (.aload_n 0, 1) := by decide +kernel
theorem d_K_line_45 : decode b_K_line 45 = .ok (.getfield 21, 3) := by decide +kernel
theorem d_K_line_48 : decode b_K_line 48 = .ok (.lload_n 1, 1) := by decide +kernel
theorem d_K_line_49 : decode b_K_line 49 = .ok (.iload_n 3, 1) := by decide +kernel
theorem d_K_line_50 : decode b_K_line 50 = .ok (.invokevirtual 73, 3) := by decide +kernel
theorem d_K_line_53 : decode b_K_line 53 = .ok (.aload_n 0, 1) := by decide +kernel
theorem d_K_line_54 : decode b_K_line 54 = .ok (.getfield 21, 3) := by decide +kernel
theorem d_K_line_57 : decode b_K_line 57 = .ok (.getfield 64, 3) := by decide +kernel
theorem d_K_line_60 : decode b_K_line 60 = .ok (.ireturn, 1) := by decide +kernel
theorem d_K_read_0 : decode b_K_read 0 = .ok (.iload_n 1, 1) := by decide +kernel
theorem d_K_read_1 : decode b_K_read 1 = .ok (.invokestatic 77, 3) := by decide +kernel
theorem d_K_read_4 : decode b_K_read 4 = .ok (.ifCond .eq 25, 3) := by decide +kernel
theorem d_K_read_7 : decode b_K_read 7 = .ok (.iload_n 2, 1) := by decide +kernel
theorem d_K_read_8 : decode b_K_read 8 = .ok (.invokestatic 81, 3) := by decide +kernel
theorem d_K_read_11 : decode b_K_read 11 = .ok (.ifCond .eq 18, 3) := by decide +kernel
theorem d_K_read_14 : decode b_K_read 14 = .ok (.aload_n 0, 1) := by decide +kernel
theorem d_K_read_15 : decode b_K_read 15 = .ok (.getfield 21, 3) := by decide +kernel
theorem d_K_read_18 : decode b_K_read 18 = .ok (.iload_n 2, 1) := by decide +kernel
theorem d_K_read_19 : decode b_K_read 19 = .ok (.invokevirtual 84, 3) := by decide +kernel
theorem d_K_read_22 : decode b_K_read 22 = .ok (.ifCond .eq 7, 3) := by decide +kernel
theorem d_K_read_25 : decode b_K_read 25 = .ok (.iconst 1, 1) := by decide +kernel
theorem d_K_read_26 : decode b_K_read 26 = .ok (.goto 4, 3) := by decide +kernel
theorem d_K_read_29 : decode b_K_read 29 = .ok (.iconst 0, 1) := by decide +kernel
theorem d_K_read_30 : decode b_K_read 30 = .ok (.istore_n 3, 1) := by decide +kernel
theorem d_K_read_31 : decode b_K_read 31 = .ok (.iload_n 3, 1) := by decide +kernel
theorem d_K_read_32 : decode b_K_read 32 = .ok (.ifCond .eq 15, 3) := by decide +kernel
theorem d_K_read_35 : decode b_K_read 35 = .ok (.aload_n 0, 1) := by decide +kernel
theorem d_K_read_36 : decode b_K_read 36 = .ok (.getfield 21, 3) := by decide +kernel
theorem d_K_read_39 : decode b_K_read 39 = .ok (.aload_n 0, 1) := by decide +kernel
theorem d_K_read_40 : decode b_K_read 40 = .ok (.getfield 32, 3) := by decide +kernel
theorem d_K_read_43 : decode b_K_read 43 = .ok (.iload_n 2, 1) := by decide +kernel
theorem d_K_read_44 : decode b_K_read 44 = .ok (.invokevirtual 87, 3) := by decide +kernel
theorem d_K_read_47 : decode b_K_read 47 = .ok (.aload_n 0, 1) := by decide +kernel
theorem d_K_read_48 : decode b_K_read 48 = .ok (.getfield 21, 3) := by decide +kernel
theorem d_K_read_51 : decode b_K_read 51 = .ok (.iconst 0, 1) := by decide +kernel
theorem d_K_read_52 : decode b_K_read 52 = .ok (.putfield 64, 3) := by decide +kernel
theorem d_K_read_55 : decode b_K_read 55 = .ok (.iload_n 3, 1) := by decide +kernel
theorem d_K_read_56 : decode b_K_read 56 = .ok (.ifCond .ne 13, 3) := by decide +kernel
theorem d_K_read_59 : decode b_K_read 59 = .ok (.new 57, 3) := by decide +kernel
theorem d_K_read_62 : decode b_K_read 62 = .ok (.dup, 1) := by decide +kernel
theorem d_K_read_63 : decode b_K_read 63 = .ok (.ldc 91, 2) := by decide +kernel
theorem d_K_read_65 : decode b_K_read 65 = .ok (.invokespecial 61, 3) := by decide +kernel
theorem d_K_read_68 : decode b_K_read 68 = .ok (.athrow, 1) := by decide +kernel
theorem d_K_read_69 : decode b_K_read 69 = .ok (.aload_n 0, 1) := by decide +kernel
theorem d_K_read_70 : decode b_K_read 70 = .ok (.aload_n 0, 1) := by decide +kernel
theorem d_K_read_71 : decode b_K_read 71 = .ok (.getfield 32, 3) := by decide +kernel
theorem d_K_read_74 : decode b_K_read 74 = .ok (.iload_n 1, 1) := by decide +kernel
theorem d_K_read_75 : decode b_K_read 75 = .ok (.invokevirtual 93, 3) := by decide +kernel
theorem d_K_read_78 : decode b_K_read 78 = .ok (.aload_n 0, 1) := by decide +kernel
theorem d_K_read_79 : decode b_K_read 79 = .ok (.getfield 32, 3) := by decide +kernel
theorem d_K_read_82 : decode b_K_read 82 = .ok (.invokevirtual 45, 3) := by decide +kernel
theorem d_K_read_85 : decode b_K_read 85 = .ok (.ireturn, 1) := by decide +kernel
theorem d_K_show_0 : decode b_K_show 0 = .ok (.iload_n 1, 1) := by decide +kernel
theorem d_K_show_1 : decode b_K_show 1 = .ok (.invokestatic 42, 3) := by decide +kernel
theorem d_K_show_4 : decode b_K_show 4 = .ok (.iload_n 2, 1) := by decide +kernel
theorem d_K_show_5 : decode b_K_show 5 = .ok (.invokestatic 81, 3) := by decide +kernel
theorem d_K_show_8 : decode b_K_show 8 = .ok (.ifCond .ne 13, 3) := by decide +kernel
theorem d_K_show_11 : decode b_K_show 11 = .ok (.new 57, 3) := by decide +kernel
theorem d_K_show_14 : decode b_K_show 14 = .ok (.dup, 1) := by decide +kernel
theorem d_K_show_15 : decode b_K_show 15 = .ok (.ldc 96, 2) := by decide +kernel
theorem d_K_show_17 : decode b_K_show 17 = .ok (.invokespecial 61, 3) := by decide +kernel
theorem d_K_show_20 : decode b_K_show 20 = .ok (.athrow, 1) := by decide +kernel
theorem d_K_show_21 : decode b_K_show 21 = .ok (.aload_n 0, 1) := by decide +kernel
theorem d_K_show_22 : decode b_K_show 22 = .ok (.getfield 32, 3) := by decide +kernel
theorem d_K_show_25 : decode b_K_show 25 = .ok (.aload_n 0, 1) := by decide +kernel
theorem d_K_show_26 : decode b_K_show 26 = .ok (.getfield 11, 3) := by decide +kernel
theorem d_K_show_29 : decode b_K_show 29 = .ok (.iload_n 1, 1) := by decide +kernel
theorem d_K_show_30 : decode b_K_show 30 = .ok (.aaload, 1) := by decide +kernel
theorem d_K_show_31 : decode b_K_show 31 = .ok (.invokevirtual 98, 3) := by decide +kernel
theorem d_K_show_34 : decode b_K_show 34 = .ok (.aload_n 0, 1) := by decide +kernel
theorem d_K_show_35 : decode b_K_show 35 = .ok (.getfield 21, 3) := by decide +kernel
theorem d_K_show_38 : decode b_K_show 38 = .ok (.aload_n 0, 1) := by decide +kernel
theorem d_K_show_39 : decode b_K_show 39 = .ok (.getfield 32, 3) := by decide +kernel
theorem d_K_show_42 : decode b_K_show 42 = .ok (.iload_n 2, 1) := by decide +kernel
theorem d_K_show_43 : decode b_K_show 43 = .ok (.invokevirtual 102, 3) := by decide +kernel
theorem d_K_show_46 : decode b_K_show 46 = .ok (.aload_n 0, 1) := by decide +kernel
theorem d_K_show_47 : decode b_K_show 47 = .ok (.getfield 21, 3) := by decide +kernel
theorem d_K_show_50 : decode b_K_show 50 = .ok (.getfield 64, 3) := by decide +kernel
theorem d_K_show_53 : decode b_K_show 53 = .ok (.ireturn, 1) := by decide +kernel
theorem d_K_letter_0 : decode b_K_letter 0 = .ok (.iload_n 1, 1) := by decide +kernel
theorem d_K_letter_1 : decode b_K_letter 1 = .ok (.ifCond .lt 14, 3) := by decide +kernel
theorem d_K_letter_4 : decode b_K_letter 4 = .ok (.iload_n 1, 1) := by decide +kernel
theorem d_K_letter_5 : decode b_K_letter 5 = .ok (.aload_n 0, 1) := by decide +kernel
theorem d_K_letter_6 : decode b_K_letter 6 = .ok (.getfield 21, 3) := by decide +kernel
theorem d_K_letter_9 : decode b_K_letter 9 = .ok (.getfield 64, 3) := by decide +kernel
theorem d_K_letter_12 : decode b_K_letter 12 = .ok (.if_icmp .lt 13, 3) := by decide +kernel
theorem d_K_letter_15 : decode b_K_letter 15 = .ok (.new 68, 3) := by decide +kernel
theorem d_K_letter_18 : decode b_K_letter 18 = .ok (.dup, 1) := by decide +kernel
theorem d_K_letter_19 : decode b_K_letter 19 = .ok (.ldc 105, 2) := by decide +kernel
theorem d_K_letter_21 : decode b_K_letter 21 = .ok (.invokespecial 72, 3) := by decide +kernel
theorem d_K_letter_24 : decode b_K_letter 24 = .ok (.athrow, 1) := by decide +kernel
theorem d_K_letter_25 : decode b_K_letter 25 = .ok (.aload_n 0, 1) := by decide +kernel
theorem d_K_letter_26 : decode b_K_letter 26 = .ok (.getfield 21, 3) := by decide +kernel
theorem d_K_letter_29 : decode b_K_letter 29 = .ok (.getfield 107, 3) := by decide +kernel
theorem d_K_letter_32 : decode b_K_letter 32 = .ok (.iload_n 1, 1) := by decide +kernel
theorem d_K_letter_33 : decode b_K_letter 33 = .ok (.baload, 1) := by decide +kernel
theorem d_K_letter_34 : decode b_K_letter 34 = .ok (.ireturn, 1) := by decide +kernel
theorem d_K_work_0 : decode b_K_work 0 = .ok (.iload_n 1, 1) := by decide +kernel
theorem d_K_work_1 : decode b_K_work 1 = .ok (.invokestatic 111, 3) := by decide +kernel
theorem d_K_work_4 : decode b_K_work 4 = .ok (.iload_n 2, 1) := by decide +kernel
theorem d_K_work_5 : decode b_K_work 5 = .ok (.iload_n 3, 1) := by decide +kernel
theorem d_K_work_6 : decode b_K_work 6 = .ok (.iload 4, 2) := by decide +kernel
theorem d_K_work_8 : decode b_K_work 8 = .ok (.invokestatic 114, 3) := by decide +kernel
theorem d_K_work_11 : decode b_K_work 11 = .ok (.aload_n 0, 1) := by decide +kernel
theorem d_K_work_12 : decode b_K_work 12 = .ok (.getfield 11, 3) := by decide +kernel
theorem d_K_work_15 : decode b_K_work 15 = .ok (.iload_n 3, 1) := by decide +kernel
theorem d_K_work_16 : decode b_K_work 16 = .ok (.aaload, 1) := by decide +kernel
theorem d_K_work_17 : decode b_K_work 17 = .ok (.astore 5, 2) := by decide +kernel
theorem d_K_work_19 : decode b_K_work 19 = .ok (.aload_n 0, 1) := by decide +kernel
theorem d_K_work_20 : decode b_K_work 20 = .ok (.getfield 11, 3) := by decide +kernel
theorem d_K_work_23 : decode b_K_work 23 = .ok (.iload 4, 2) := by decide +kernel
theorem d_K_work_25 : decode b_K_work 25 = .ok (.aaload, 1) := by decide +kernel
theorem d_K_work_26 : decode b_K_work 26 = .ok (.astore 6, 2) := by decide +kernel
theorem d_K_work_28 : decode b_K_work 28 = .ok (.iload_n 1, 1) := by decide +kernel
theorem d_K_work_29 : decode b_K_work 29 = .ok (.ifCond .ne 22, 3) := by decide +kernel
theorem d_K_work_32 : decode b_K_work 32 = .ok (.aload_n 0, 1) := by decide +kernel
theorem d_K_work_33 : decode b_K_work 33 = .ok (.getfield 32, 3) := by decide +kernel
theorem d_K_work_36 : decode b_K_work 36 = .ok (.aload 5, 2) := by decide +kernel
theorem d_K_work_38 : decode b_K_work 38 = .ok (.aload 6, 2) := by decide +kernel
theorem d_K_work_40 : decode b_K_work 40 = .ok (.aload 6, 2) := by decide +kernel
theorem d_K_work_42 : decode b_K_work 42 = .ok (.getfield 118, 3) := by decide +kernel
theorem d_K_work_45 : decode b_K_work 45 = .ok (.invokevirtual 122, 3) := by decide +kernel
theorem d_K_work_48 : decode b_K_work 48 = .ok (.goto 46, 3) := by decide +kernel
theorem d_K_work_51 : decode b_K_work 51 = .ok (.iload_n 1, 1) := by decide +kernel
theorem d_K_work_52 : decode b_K_work 52 = .ok (.iconst 1, 1) := by decide +kernel
theorem d_K_work_53 : decode b_K_work 53 = .ok (.if_icmp .ne 30, 3) := by decide +kernel
theorem d_K_work_56 : decode b_K_work 56 = .ok (.aload_n 0, 1) := by decide +kernel
theorem d_K_work_57 : decode b_K_work 57 = .ok (.getfield 32, 3) := by decide +kernel
