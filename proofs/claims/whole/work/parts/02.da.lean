theorem d_W_init_0 : decode b_W_init 0 = .ok (.aload_n 0, 1) := by decide +kernel
theorem d_W_init_1 : decode b_W_init 1 = .ok (.invokespecial 3, 3) := by decide +kernel
theorem d_W_init_4 : decode b_W_init 4 = .ok (.aload_n 0, 1) := by decide +kernel
theorem d_W_init_5 : decode b_W_init 5 = .ok (.iload_n 1, 1) := by decide +kernel
theorem d_W_init_6 : decode b_W_init 6 = .ok (.newarray .int, 2) := by decide +kernel
theorem d_W_init_8 : decode b_W_init 8 = .ok (.putfield 9, 3) := by decide +kernel
theorem d_W_init_11 : decode b_W_init 11 = .ok (.return_, 1) := by decide +kernel
theorem d_W_sign_0 : decode b_W_sign 0 = .ok (.aload_n 0, 1) := by decide +kernel
theorem d_W_sign_1 : decode b_W_sign 1 = .ok (.getfield 15, 3) := by decide +kernel
theorem d_W_sign_4 : decode b_W_sign 4 = .ok (.ifCond .ne 7, 3) := by decide +kernel
theorem d_W_sign_7 : decode b_W_sign 7 = .ok (.iconst 0, 1) := by decide +kernel
theorem d_W_sign_8 : decode b_W_sign 8 = .ok (.goto 15, 3) := by decide +kernel
theorem d_W_sign_11 : decode b_W_sign 11 = .ok (.aload_n 0, 1) := by decide +kernel
theorem d_W_sign_12 : decode b_W_sign 12 = .ok (.getfield 19, 3) := by decide +kernel
theorem d_W_sign_15 : decode b_W_sign 15 = .ok (.ifCond .eq 7, 3) := by decide +kernel
theorem d_W_sign_18 : decode b_W_sign 18 = .ok (.iconst (-1), 1) := by decide +kernel
theorem d_W_sign_19 : decode b_W_sign 19 = .ok (.goto 4, 3) := by decide +kernel
theorem d_W_sign_22 : decode b_W_sign 22 = .ok (.iconst 1, 1) := by decide +kernel
theorem d_W_sign_23 : decode b_W_sign 23 = .ok (.ireturn, 1) := by decide +kernel
theorem d_W_limbAt_0 : decode b_W_limbAt 0 = .ok (.iload_n 1, 1) := by decide +kernel
theorem d_W_limbAt_1 : decode b_W_limbAt 1 = .ok (.aload_n 0, 1) := by decide +kernel
theorem d_W_limbAt_2 : decode b_W_limbAt 2 = .ok (.getfield 15, 3) := by decide +kernel
theorem d_W_limbAt_5 : decode b_W_limbAt 5 = .ok (.if_icmp .ge 12, 3) := by decide +kernel
theorem d_W_limbAt_8 : decode b_W_limbAt 8 = .ok (.aload_n 0, 1) := by decide +kernel
theorem d_W_limbAt_9 : decode b_W_limbAt 9 = .ok (.getfield 9, 3) := by decide +kernel
theorem d_W_limbAt_12 : decode b_W_limbAt 12 = .ok (.iload_n 1, 1) := by decide +kernel
theorem d_W_limbAt_13 : decode b_W_limbAt 13 = .ok (.iaload, 1) := by decide +kernel
theorem d_W_limbAt_14 : decode b_W_limbAt 14 = .ok (.goto 4, 3) := by decide +kernel
theorem d_W_limbAt_17 : decode b_W_limbAt 17 = .ok (.iconst 0, 1) := by decide +kernel
theorem d_W_limbAt_18 : decode b_W_limbAt 18 = .ok (.ireturn, 1) := by decide +kernel
theorem d_W_countBits_0 : decode b_W_countBits 0 = .ok (.aload_n 0, 1) := by decide +kernel
theorem d_W_countBits_1 : decode b_W_countBits 1 = .ok (.getfield 15, 3) := by decide +kernel
theorem d_W_countBits_4 : decode b_W_countBits 4 = .ok (.ifCond .ne 7, 3) := by decide +kernel
theorem d_W_countBits_7 : decode b_W_countBits 7 = .ok (.iconst 0, 1) := by decide +kernel
theorem d_W_countBits_8 : decode b_W_countBits 8 = .ok (.goto 27, 3) := by decide +kernel
theorem d_W_countBits_11 : decode b_W_countBits 11 = .ok (.aload_n 0, 1) := by decide +kernel
theorem d_W_countBits_12 : decode b_W_countBits 12 = .ok (.getfield 15, 3) := by decide +kernel
theorem d_W_countBits_15 : decode b_W_countBits 15 = .ok (.iconst 1, 1) := by decide +kernel
theorem d_W_countBits_16 : decode b_W_countBits 16 = .ok (.isub, 1) := by decide +kernel
theorem d_W_countBits_17 : decode b_W_countBits 17 = .ok (.bipush 31, 2) := by decide +kernel
theorem d_W_countBits_19 : decode b_W_countBits 19 = .ok (.imul, 1) := by decide +kernel
theorem d_W_countBits_20 : decode b_W_countBits 20 = .ok (.aload_n 0, 1) := by decide +kernel
theorem d_W_countBits_21 : decode b_W_countBits 21 = .ok (.getfield 9, 3) := by decide +kernel
theorem d_W_countBits_24 : decode b_W_countBits 24 = .ok (.aload_n 0, 1) := by decide +kernel
theorem d_W_countBits_25 : decode b_W_countBits 25 = .ok (.getfield 15, 3) := by decide +kernel
theorem d_W_countBits_28 : decode b_W_countBits 28 = .ok (.iconst 1, 1) := by decide +kernel
theorem d_W_countBits_29 : decode b_W_countBits 29 = .ok (.isub, 1) := by decide +kernel
theorem d_W_countBits_30 : decode b_W_countBits 30 = .ok (.iaload, 1) := by decide +kernel
theorem d_W_countBits_31 : decode b_W_countBits 31 = .ok (.invokestatic 23, 3) := by decide +kernel
theorem d_W_countBits_34 : decode b_W_countBits 34 = .ok (.iadd, 1) := by decide +kernel
theorem d_W_countBits_35 : decode b_W_countBits 35 = .ok (.ireturn, 1) := by decide +kernel
theorem d_W_bitsIn_0 : decode b_W_bitsIn 0 = .ok (.iconst 0, 1) := by decide +kernel
theorem d_W_bitsIn_1 : decode b_W_bitsIn 1 = .ok (.istore_n 1, 1) := by decide +kernel
theorem d_W_bitsIn_2 : decode b_W_bitsIn 2 = .ok (.iload_n 1, 1) := by decide +kernel
theorem d_W_bitsIn_3 : decode b_W_bitsIn 3 = .ok (.bipush 31, 2) := by decide +kernel
theorem d_W_bitsIn_5 : decode b_W_bitsIn 5 = .ok (.if_icmp .ge 15, 3) := by decide +kernel
theorem d_W_bitsIn_8 : decode b_W_bitsIn 8 = .ok (.iload_n 0, 1) := by decide +kernel
theorem d_W_bitsIn_9 : decode b_W_bitsIn 9 = .ok (.iload_n 1, 1) := by decide +kernel
theorem d_W_bitsIn_10 : decode b_W_bitsIn 10 = .ok (.iushr, 1) := by decide +kernel
theorem d_W_bitsIn_11 : decode b_W_bitsIn 11 = .ok (.ifCond .eq 9, 3) := by decide +kernel
theorem d_W_bitsIn_14 : decode b_W_bitsIn 14 = .ok (.iinc 1 1, 3) := by decide +kernel
theorem d_W_bitsIn_17 : decode b_W_bitsIn 17 = .ok (.goto (-15), 3) := by decide +kernel
theorem d_W_bitsIn_20 : decode b_W_bitsIn 20 = .ok (.iload_n 1, 1) := by decide +kernel
theorem d_W_bitsIn_21 : decode b_W_bitsIn 21 = .ok (.ireturn, 1) := by decide +kernel
theorem d_W_hasBit_0 : decode b_W_hasBit 0 = .ok (.aload_n 0, 1) := by decide +kernel
theorem d_W_hasBit_1 : decode b_W_hasBit 1 = .ok (.iload_n 1, 1) := by decide +kernel
theorem d_W_hasBit_2 : decode b_W_hasBit 2 = .ok (.bipush 31, 2) := by decide +kernel
theorem d_W_hasBit_4 : decode b_W_hasBit 4 = .ok (.idiv, 1) := by decide +kernel
theorem d_W_hasBit_5 : decode b_W_hasBit 5 = .ok (.invokevirtual 27, 3) := by decide +kernel
theorem d_W_hasBit_8 : decode b_W_hasBit 8 = .ok (.iload_n 1, 1) := by decide +kernel
theorem d_W_hasBit_9 : decode b_W_hasBit 9 = .ok (.bipush 31, 2) := by decide +kernel
theorem d_W_hasBit_11 : decode b_W_hasBit 11 = .ok (.irem, 1) := by decide +kernel
theorem d_W_hasBit_12 : decode b_W_hasBit 12 = .ok (.iushr, 1) := by decide +kernel
theorem d_W_hasBit_13 : decode b_W_hasBit 13 = .ok (.iconst 1, 1) := by decide +kernel
theorem d_W_hasBit_14 : decode b_W_hasBit 14 = .ok (.iand, 1) := by decide +kernel
theorem d_W_hasBit_15 : decode b_W_hasBit 15 = .ok (.iconst 1, 1) := by decide +kernel
theorem d_W_hasBit_16 : decode b_W_hasBit 16 = .ok (.if_icmp .ne 7, 3) := by decide +kernel
theorem d_W_hasBit_19 : decode b_W_hasBit 19 = .ok (.iconst 1, 1) := by decide +kernel
theorem d_W_hasBit_20 : decode b_W_hasBit 20 = .ok (.goto 4, 3) := by decide +kernel
theorem d_W_hasBit_23 : decode b_W_hasBit 23 = .ok (.iconst 0, 1) := by decide +kernel
theorem d_W_hasBit_24 : decode b_W_hasBit 24 = .ok (.ireturn, 1) := by decide +kernel
theorem d_W_trim_0 : decode b_W_trim 0 = .ok (.aload_n 0, 1) := by decide +kernel
theorem d_W_trim_1 : decode b_W_trim 1 = .ok (.iload_n 1, 1) := by decide +kernel
theorem d_W_trim_2 : decode b_W_trim 2 = .ok (.putfield 15, 3) := by decide +kernel
theorem d_W_trim_5 : decode b_W_trim 5 = .ok (.aload_n 0, 1) := by decide +kernel
theorem d_W_trim_6 : decode b_W_trim 6 = .ok (.getfield 15, 3) := by decide +kernel
theorem d_W_trim_9 : decode b_W_trim 9 = .ok (.ifCond .le 30, 3) := by decide +kernel
theorem d_W_trim_12 : decode b_W_trim 12 = .ok (.aload_n 0, 1) := by decide +kernel
theorem d_W_trim_13 : decode b_W_trim 13 = .ok (.getfield 9, 3) := by decide +kernel
theorem d_W_trim_16 : decode b_W_trim 16 = .ok (.aload_n 0, 1) := by decide +kernel
theorem d_W_trim_17 : decode b_W_trim 17 = .ok (.getfield 15, 3) := by decide +kernel
theorem d_W_trim_20 : decode b_W_trim 20 = .ok (.iconst 1, 1) := by decide +kernel
theorem d_W_trim_21 : decode b_W_trim 21 = .ok (.isub, 1) := by decide +kernel
theorem d_W_trim_22 : decode b_W_trim 22 = .ok (.iaload, 1) := by decide +kernel
theorem d_W_trim_23 : decode b_W_trim 23 = .ok (.ifCond .ne 16, 3) := by decide +kernel
theorem d_W_trim_26 : decode b_W_trim 26 = .ok (.aload_n 0, 1) := by decide +kernel
theorem d_W_trim_27 : decode b_W_trim 27 = .ok (.dup, 1) := by decide +kernel
theorem d_W_trim_28 : decode b_W_trim 28 = .ok (.getfield 15, 3) := by decide +kernel
theorem d_W_trim_31 : decode b_W_trim 31 = .ok (.iconst 1, 1) := by decide +kernel
theorem d_W_trim_32 : decode b_W_trim 32 = .ok (.isub, 1) := by decide +kernel
theorem d_W_trim_33 : decode b_W_trim 33 = .ok (.putfield 15, 3) := by decide +kernel
theorem d_W_trim_36 : decode b_W_trim 36 = .ok (.goto (-31), 3) := by decide +kernel
theorem d_W_trim_39 : decode b_W_trim 39 = .ok (.aload_n 0, 1) := by decide +kernel
theorem d_W_trim_40 : decode b_W_trim 40 = .ok (.aload_n 0, 1) := by decide +kernel
theorem d_W_trim_41 : decode b_W_trim 41 = .ok (.getfield 19, 3) := by decide +kernel
theorem d_W_trim_44 : decode b_W_trim 44 = .ok (.invokevirtual 30, 3) := by decide +kernel
theorem d_W_trim_47 : decode b_W_trim 47 = .ok (.return_, 1) := by decide +kernel
theorem d_W_setBelow_0 : decode b_W_setBelow 0 = .ok (.aload_n 0, 1) := by decide +kernel
theorem d_W_setBelow_1 : decode b_W_setBelow 1 = .ok (.iload_n 1, 1) := by decide +kernel
theorem d_W_setBelow_2 : decode b_W_setBelow 2 = .ok (.ifCond .eq 14, 3) := by decide +kernel
theorem d_W_setBelow_5 : decode b_W_setBelow 5 = .ok (.aload_n 0, 1) := by decide +kernel
theorem d_W_setBelow_6 : decode b_W_setBelow 6 = .ok (.getfield 15, 3) := by decide +kernel
theorem d_W_setBelow_9 : decode b_W_setBelow 9 = .ok (.ifCond .le 7, 3) := by decide +kernel
theorem d_W_setBelow_12 : decode b_W_setBelow 12 = .ok (.iconst 1, 1) := by decide +kernel
theorem d_W_setBelow_13 : decode b_W_setBelow 13 = .ok (.goto 4, 3) := by decide +kernel
theorem d_W_setBelow_16 : decode b_W_setBelow 16 = .ok (.iconst 0, 1) := by decide +kernel
theorem d_W_setBelow_17 : decode b_W_setBelow 17 = .ok (.putfield 19, 3) := by decide +kernel
theorem d_W_setBelow_20 : decode b_W_setBelow 20 = .ok (.return_, 1) := by decide +kernel
theorem d_W_takeLong_0 : decode b_W_takeLong 0 = .ok (.lload_n 1, 1) := by decide +kernel
theorem d_W_takeLong_1 : decode b_W_takeLong 1 = .ok (.lconst 0, 1) := by decide +kernel
theorem d_W_takeLong_2 : decode b_W_takeLong 2 = .ok (.lcmp, 1) := by decide +kernel
theorem d_W_takeLong_3 : decode b_W_takeLong 3 = .ok (.ifCond .ge 8, 3) := by decide +kernel
theorem d_W_takeLong_6 : decode b_W_takeLong 6 = .ok (.lload_n 1, 1) := by decide +kernel
theorem d_W_takeLong_7 : decode b_W_takeLong 7 = .ok (.lneg, 1) := by decide +kernel
theorem d_W_takeLong_8 : decode b_W_takeLong 8 = .ok (.goto 4, 3) := by decide +kernel
theorem d_W_takeLong_11 : decode b_W_takeLong 11 = .ok (.lload_n 1, 1) := by decide +kernel
theorem d_W_takeLong_12 : decode b_W_takeLong 12 = .ok (.lstore_n 3, 1) := by decide +kernel
theorem d_W_takeLong_13 : decode b_W_takeLong 13 = .ok (.aload_n 0, 1) := by decide +kernel
theorem d_W_takeLong_14 : decode b_W_takeLong 14 = .ok (.getfield 9, 3) := by decide +kernel
theorem d_W_takeLong_17 : decode b_W_takeLong 17 = .ok (.iconst 0, 1) := by decide +kernel
theorem d_W_takeLong_18 : decode b_W_takeLong 18 = .ok (.lload_n 3, 1) := by decide +kernel
theorem d_W_takeLong_19 : decode b_W_takeLong 19 = .ok (.ldc2_w 34, 3) := by decide +kernel
theorem d_W_takeLong_22 : decode b_W_takeLong 22 = .ok (.land, 1) := by decide +kernel
theorem d_W_takeLong_23 : decode b_W_takeLong 23 = .ok (.l2i, 1) := by decide +kernel
theorem d_W_takeLong_24 : decode b_W_takeLong 24 = .ok (.iastore, 1) := by decide +kernel
theorem d_W_takeLong_25 : decode b_W_takeLong 25 = .ok (.aload_n 0, 1) := by decide +kernel
theorem d_W_takeLong_26 : decode b_W_takeLong 26 = .ok (.getfield 9, 3) := by decide +kernel
theorem d_W_takeLong_29 : decode b_W_takeLong 29 = .ok (.iconst 1, 1) := by decide +kernel
theorem d_W_takeLong_30 : decode b_W_takeLong 30 = .ok (.lload_n 3, 1) := by decide +kernel
theorem d_W_takeLong_31 : decode b_W_takeLong 31 = .ok (.bipush 31, 2) := by decide +kernel
theorem d_W_takeLong_33 : decode b_W_takeLong 33 = .ok (.lushr, 1) := by decide +kernel
theorem d_W_takeLong_34 : decode b_W_takeLong 34 = .ok (.ldc2_w 34, 3) := by decide +kernel
theorem d_W_takeLong_37 : decode b_W_takeLong 37 = .ok (.land, 1) := by decide +kernel
theorem d_W_takeLong_38 : decode b_W_takeLong 38 = .ok (.l2i, 1) := by decide +kernel
theorem d_W_takeLong_39 : decode b_W_takeLong 39 = .ok (.iastore, 1) := by decide +kernel
theorem d_W_takeLong_40 : decode b_W_takeLong 40 = .ok (.aload_n 0, 1) := by decide +kernel
theorem d_W_takeLong_41 : decode b_W_takeLong 41 = .ok (.getfield 9, 3) := by decide +kernel
theorem d_W_takeLong_44 : decode b_W_takeLong 44 = .ok (.iconst 2, 1) := by decide +kernel
theorem d_W_takeLong_45 : decode b_W_takeLong 45 = .ok (.lload_n 3, 1) := by decide +kernel
theorem d_W_takeLong_46 : decode b_W_takeLong 46 = .ok (.bipush 62, 2) := by decide +kernel
theorem d_W_takeLong_48 : decode b_W_takeLong 48 = .ok (.lushr, 1) := by decide +kernel
theorem d_W_takeLong_49 : decode b_W_takeLong 49 = .ok (.l2i, 1) := by decide +kernel
theorem d_W_takeLong_50 : decode b_W_takeLong 50 = .ok (.iastore, 1) := by decide +kernel
theorem d_W_takeLong_51 : decode b_W_takeLong 51 = .ok (.aload_n 0, 1) := by decide +kernel
theorem d_W_takeLong_52 : decode b_W_takeLong 52 = .ok (.lload_n 1, 1) := by decide +kernel
theorem d_W_takeLong_53 : decode b_W_takeLong 53 = .ok (.lconst 0, 1) := by decide +kernel
theorem d_W_takeLong_54 : decode b_W_takeLong 54 = .ok (.lcmp, 1) := by decide +kernel
theorem d_W_takeLong_55 : decode b_W_takeLong 55 = .ok (.ifCond .ge 7, 3) := by decide +kernel
theorem d_W_takeLong_58 : decode b_W_takeLong 58 = .ok (.iconst 1, 1) := by decide +kernel
theorem d_W_takeLong_59 : decode b_W_takeLong 59 = .ok (.goto 4, 3) := by decide +kernel
theorem d_W_takeLong_62 : decode b_W_takeLong 62 = .ok (.iconst 0, 1) := by decide +kernel
theorem d_W_takeLong_63 : decode b_W_takeLong 63 = .ok (.putfield 19, 3) := by decide +kernel
theorem d_W_takeLong_66 : decode b_W_takeLong 66 = .ok (.aload_n 0, 1) := by decide +kernel
theorem d_W_takeLong_67 : decode b_W_takeLong 67 = .ok (.iconst 3, 1) := by decide +kernel
theorem d_W_takeLong_68 : decode b_W_takeLong 68 = .ok (.invokevirtual 36, 3) := by decide +kernel
theorem d_W_takeLong_71 : decode b_W_takeLong 71 = .ok (.return_, 1) := by decide +kernel
theorem d_W_takeCopy_0 : decode b_W_takeCopy 0 = .ok (.aload_n 1, 1) := by decide +kernel
theorem d_W_takeCopy_1 : decode b_W_takeCopy 1 = .ok (.getfield 9, 3) := by decide +kernel
theorem d_W_takeCopy_4 : decode b_W_takeCopy 4 = .ok (.iconst 0, 1) := by decide +kernel
theorem d_W_takeCopy_5 : decode b_W_takeCopy 5 = .ok (.aload_n 0, 1) := by decide +kernel
theorem d_W_takeCopy_6 : decode b_W_takeCopy 6 = .ok (.getfield 9, 3) := by decide +kernel
theorem d_W_takeCopy_9 : decode b_W_takeCopy 9 = .ok (.iconst 0, 1) := by decide +kernel
theorem d_W_takeCopy_10 : decode b_W_takeCopy 10 = .ok (.aload_n 1, 1) := by decide +kernel
theorem d_W_takeCopy_11 : decode b_W_takeCopy 11 = .ok (.getfield 15, 3) := by decide +kernel
theorem d_W_takeCopy_14 : decode b_W_takeCopy 14 = .ok (.invokestatic 40, 3) := by decide +kernel
theorem d_W_takeCopy_17 : decode b_W_takeCopy 17 = .ok (.aload_n 0, 1) := by decide +kernel
theorem d_W_takeCopy_18 : decode b_W_takeCopy 18 = .ok (.aload_n 1, 1) := by decide +kernel
theorem d_W_takeCopy_19 : decode b_W_takeCopy 19 = .ok (.getfield 15, 3) := by decide +kernel
theorem d_W_takeCopy_22 : decode b_W_takeCopy 22 = .ok (.putfield 15, 3) := by decide +kernel
theorem d_W_takeCopy_25 : decode b_W_takeCopy 25 = .ok (.aload_n 0, 1) := by decide +kernel
theorem d_W_takeCopy_26 : decode b_W_takeCopy 26 = .ok (.aload_n 1, 1) := by decide +kernel
theorem d_W_takeCopy_27 : decode b_W_takeCopy 27 = .ok (.getfield 19, 3) := by decide +kernel
theorem d_W_takeCopy_30 : decode b_W_takeCopy 30 = .ok (.putfield 19, 3) := by decide +kernel
theorem d_W_takeCopy_33 : decode b_W_takeCopy 33 = .ok (.return_, 1) := by decide +kernel
theorem d_W_fitsLong_0 : decode b_W_fitsLong 0 = .ok (.aload_n 0, 1) := by decide +kernel
theorem d_W_fitsLong_1 : decode b_W_fitsLong 1 = .ok (.invokevirtual 46, 3) := by decide +kernel
theorem d_W_fitsLong_4 : decode b_W_fitsLong 4 = .ok (.bipush 64, 2) := by decide +kernel
theorem d_W_fitsLong_6 : decode b_W_fitsLong 6 = .ok (.if_icmp .lt 28, 3) := by decide +kernel
theorem d_W_fitsLong_9 : decode b_W_fitsLong 9 = .ok (.aload_n 0, 1) := by decide +kernel
theorem d_W_fitsLong_10 : decode b_W_fitsLong 10 = .ok (.getfield 19, 3) := by decide +kernel
theorem d_W_fitsLong_13 : decode b_W_fitsLong 13 = .ok (.ifCond .eq 25, 3) := by decide +kernel
theorem d_W_fitsLong_16 : decode b_W_fitsLong 16 = .ok (.aload_n 0, 1) := by decide +kernel
theorem d_W_fitsLong_17 : decode b_W_fitsLong 17 = .ok (.invokevirtual 46, 3) := by decide +kernel
theorem d_W_fitsLong_20 : decode b_W_fitsLong 20 = .ok (.bipush 64, 2) := by decide +kernel
theorem d_W_fitsLong_22 : decode b_W_fitsLong 22 = .ok (.if_icmp .ne 16, 3) := by decide +kernel
theorem d_W_fitsLong_25 : decode b_W_fitsLong 25 = .ok (.aload_n 0, 1) := by decide +kernel
theorem d_W_fitsLong_26 : decode b_W_fitsLong 26 = .ok (.invokevirtual 50, 3) := by decide +kernel
theorem d_W_fitsLong_29 : decode b_W_fitsLong 29 = .ok (.lconst 0, 1) := by decide +kernel
theorem d_W_fitsLong_30 : decode b_W_fitsLong 30 = .ok (.lcmp, 1) := by decide +kernel
theorem d_W_fitsLong_31 : decode b_W_fitsLong 31 = .ok (.ifCond .ge 7, 3) := by decide +kernel
theorem d_W_fitsLong_34 : decode b_W_fitsLong 34 = .ok (.iconst 1, 1) := by decide +kernel
theorem d_W_fitsLong_35 : decode b_W_fitsLong 35 = .ok (.goto 4, 3) := by decide +kernel
theorem d_W_fitsLong_38 : decode b_W_fitsLong 38 = .ok (.iconst 0, 1) := by decide +kernel
theorem d_W_fitsLong_39 : decode b_W_fitsLong 39 = .ok (.ireturn, 1) := by decide +kernel
theorem d_W_lowestBits_0 : decode b_W_lowestBits 0 = .ok (.aload_n 0, 1) := by decide +kernel
theorem d_W_lowestBits_1 : decode b_W_lowestBits 1 = .ok (.iconst 0, 1) := by decide +kernel
theorem d_W_lowestBits_2 : decode b_W_lowestBits 2 = .ok (.invokevirtual 27, 3) := by decide +kernel
theorem d_W_lowestBits_5 : decode b_W_lowestBits 5 = .ok (.i2l, 1) := by decide +kernel
theorem d_W_lowestBits_6 : decode b_W_lowestBits 6 = .ok (.aload_n 0, 1) := by decide +kernel
theorem d_W_lowestBits_7 : decode b_W_lowestBits 7 = .ok (.iconst 1, 1) := by decide +kernel
theorem d_W_lowestBits_8 : decode b_W_lowestBits 8 = .ok (.invokevirtual 27, 3) := by decide +kernel
theorem d_W_lowestBits_11 : decode b_W_lowestBits 11 = .ok (.i2l, 1) := by decide +kernel
theorem d_W_lowestBits_12 : decode b_W_lowestBits 12 = .ok (.bipush 31, 2) := by decide +kernel
theorem d_W_lowestBits_14 : decode b_W_lowestBits 14 = .ok (.lshl, 1) := by decide +kernel
theorem d_W_lowestBits_15 : decode b_W_lowestBits 15 = .ok (.lor, 1) := by decide +kernel
theorem d_W_lowestBits_16 : decode b_W_lowestBits 16 = .ok (.aload_n 0, 1) := by decide +kernel
theorem d_W_lowestBits_17 : decode b_W_lowestBits 17 = .ok (.iconst 2, 1) := by decide +kernel
theorem d_W_lowestBits_18 : decode b_W_lowestBits 18 = .ok (.invokevirtual 27, 3) := by decide +kernel
theorem d_W_lowestBits_21 : decode b_W_lowestBits 21 = .ok (.i2l, 1) := by decide +kernel
theorem d_W_lowestBits_22 : decode b_W_lowestBits 22 = .ok (.bipush 62, 2) := by decide +kernel
theorem d_W_lowestBits_24 : decode b_W_lowestBits 24 = .ok (.lshl, 1) := by decide +kernel
theorem d_W_lowestBits_25 : decode b_W_lowestBits 25 = .ok (.lor, 1) := by decide +kernel
theorem d_W_lowestBits_26 : decode b_W_lowestBits 26 = .ok (.lstore_n 1, 1) := by decide +kernel
theorem d_W_lowestBits_27 : decode b_W_lowestBits 27 = .ok (.aload_n 0, 1) := by decide +kernel
theorem d_W_lowestBits_28 : decode b_W_lowestBits 28 = .ok (.getfield 19, 3) := by decide +kernel
theorem d_W_lowestBits_31 : decode b_W_lowestBits 31 = .ok (.ifCond .eq 8, 3) := by decide +kernel
theorem d_W_lowestBits_34 : decode b_W_lowestBits 34 = .ok (.lload_n 1, 1) := by decide +kernel
theorem d_W_lowestBits_35 : decode b_W_lowestBits 35 = .ok (.lneg, 1) := by decide +kernel
theorem d_W_lowestBits_36 : decode b_W_lowestBits 36 = .ok (.goto 4, 3) := by decide +kernel
theorem d_W_lowestBits_39 : decode b_W_lowestBits 39 = .ok (.lload_n 1, 1) := by decide +kernel
theorem d_W_lowestBits_40 : decode b_W_lowestBits 40 = .ok (.lreturn, 1) := by decide +kernel
theorem d_W_foldedBits_0 : decode b_W_foldedBits 0 = .ok (.ldc2_w 54, 3) := by decide +kernel
theorem d_W_foldedBits_3 : decode b_W_foldedBits 3 = .ok (.lstore_n 1, 1) := by decide +kernel
theorem d_W_foldedBits_4 : decode b_W_foldedBits 4 = .ok (.lconst 0, 1) := by decide +kernel
theorem d_W_foldedBits_5 : decode b_W_foldedBits 5 = .ok (.lstore_n 3, 1) := by decide +kernel
theorem d_W_foldedBits_6 : decode b_W_foldedBits 6 = .ok (.aload_n 0, 1) := by decide +kernel
theorem d_W_foldedBits_7 : decode b_W_foldedBits 7 = .ok (.getfield 15, 3) := by decide +kernel
theorem d_W_foldedBits_10 : decode b_W_foldedBits 10 = .ok (.iconst 1, 1) := by decide +kernel
theorem d_W_foldedBits_11 : decode b_W_foldedBits 11 = .ok (.isub, 1) := by decide +kernel
theorem d_W_foldedBits_12 : decode b_W_foldedBits 12 = .ok (.istore 5, 2) := by decide +kernel
theorem d_W_foldedBits_14 : decode b_W_foldedBits 14 = .ok (.iload 5, 2) := by decide +kernel
theorem d_W_foldedBits_16 : decode b_W_foldedBits 16 = .ok (.ifCond .lt 42, 3) := by decide +kernel
theorem d_W_foldedBits_19 : decode b_W_foldedBits 19 = .ok (.lload_n 3, 1) := by decide +kernel
theorem d_W_foldedBits_20 : decode b_W_foldedBits 20 = .ok (.bipush 31, 2) := by decide +kernel
theorem d_W_foldedBits_22 : decode b_W_foldedBits 22 = .ok (.lshl, 1) := by decide +kernel
theorem d_W_foldedBits_23 : decode b_W_foldedBits 23 = .ok (.lload_n 1, 1) := by decide +kernel
theorem d_W_foldedBits_24 : decode b_W_foldedBits 24 = .ok (.land, 1) := by decide +kernel
theorem d_W_foldedBits_25 : decode b_W_foldedBits 25 = .ok (.lload_n 3, 1) := by decide +kernel
theorem d_W_foldedBits_26 : decode b_W_foldedBits 26 = .ok (.bipush 30, 2) := by decide +kernel
theorem d_W_foldedBits_28 : decode b_W_foldedBits 28 = .ok (.lushr, 1) := by decide +kernel
theorem d_W_foldedBits_29 : decode b_W_foldedBits 29 = .ok (.lor, 1) := by decide +kernel
theorem d_W_foldedBits_30 : decode b_W_foldedBits 30 = .ok (.lstore_n 3, 1) := by decide +kernel
theorem d_W_foldedBits_31 : decode b_W_foldedBits 31 = .ok (.lload_n 3, 1) := by decide +kernel
theorem d_W_foldedBits_32 : decode b_W_foldedBits 32 = .ok (.aload_n 0, 1) := by decide +kernel
theorem d_W_foldedBits_33 : decode b_W_foldedBits 33 = .ok (.getfield 9, 3) := by decide +kernel
theorem d_W_foldedBits_36 : decode b_W_foldedBits 36 = .ok (.iload 5, 2) := by decide +kernel
theorem d_W_foldedBits_38 : decode b_W_foldedBits 38 = .ok (.iaload, 1) := by decide +kernel
theorem d_W_foldedBits_39 : decode b_W_foldedBits 39 = .ok (.i2l, 1) := by decide +kernel
theorem d_W_foldedBits_40 : decode b_W_foldedBits 40 = .ok (.ladd, 1) := by decide +kernel
theorem d_W_foldedBits_41 : decode b_W_foldedBits 41 = .ok (.lstore_n 3, 1) := by decide +kernel
theorem d_W_foldedBits_42 : decode b_W_foldedBits 42 = .ok (.lload_n 3, 1) := by decide +kernel
theorem d_W_foldedBits_43 : decode b_W_foldedBits 43 = .ok (.lload_n 1, 1) := by decide +kernel
theorem d_W_foldedBits_44 : decode b_W_foldedBits 44 = .ok (.lcmp, 1) := by decide +kernel
theorem d_W_foldedBits_45 : decode b_W_foldedBits 45 = .ok (.ifCond .lt 7, 3) := by decide +kernel
theorem d_W_foldedBits_48 : decode b_W_foldedBits 48 = .ok (.lload_n 3, 1) := by decide +kernel
theorem d_W_foldedBits_49 : decode b_W_foldedBits 49 = .ok (.lload_n 1, 1) := by decide +kernel
theorem d_W_foldedBits_50 : decode b_W_foldedBits 50 = .ok (.lsub, 1) := by decide +kernel
theorem d_W_foldedBits_51 : decode b_W_foldedBits 51 = .ok (.lstore_n 3, 1) := by decide +kernel
theorem d_W_foldedBits_52 : decode b_W_foldedBits 52 = .ok (.iinc 5 (-1), 3) := by decide +kernel
theorem d_W_foldedBits_55 : decode b_W_foldedBits 55 = .ok (.goto (-41), 3) := by decide +kernel
theorem d_W_foldedBits_58 : decode b_W_foldedBits 58 = .ok (.aload_n 0, 1) := by decide +kernel
theorem d_W_foldedBits_59 : decode b_W_foldedBits 59 = .ok (.getfield 19, 3) := by decide +kernel
theorem d_W_foldedBits_62 : decode b_W_foldedBits 62 = .ok (.ifCond .eq 8, 3) := by decide +kernel
theorem d_W_foldedBits_65 : decode b_W_foldedBits 65 = .ok (.lload_n 3, 1) := by decide +kernel
theorem d_W_foldedBits_66 : decode b_W_foldedBits 66 = .ok (.lneg, 1) := by decide +kernel
theorem d_W_foldedBits_67 : decode b_W_foldedBits 67 = .ok (.goto 4, 3) := by decide +kernel
theorem d_W_foldedBits_70 : decode b_W_foldedBits 70 = .ok (.lload_n 3, 1) := by decide +kernel
theorem d_W_foldedBits_71 : decode b_W_foldedBits 71 = .ok (.lreturn, 1) := by decide +kernel
theorem d_W_orderTo_0 : decode b_W_orderTo 0 = .ok (.aload_n 0, 1) := by decide +kernel
theorem d_W_orderTo_1 : decode b_W_orderTo 1 = .ok (.invokevirtual 56, 3) := by decide +kernel
theorem d_W_orderTo_4 : decode b_W_orderTo 4 = .ok (.aload_n 1, 1) := by decide +kernel
theorem d_W_orderTo_5 : decode b_W_orderTo 5 = .ok (.invokevirtual 56, 3) := by decide +kernel
theorem d_W_orderTo_8 : decode b_W_orderTo 8 = .ok (.if_icmp .eq 20, 3) := by decide +kernel
theorem d_W_orderTo_11 : decode b_W_orderTo 11 = .ok (.aload_n 0, 1) := by decide +kernel
theorem d_W_orderTo_12 : decode b_W_orderTo 12 = .ok (.invokevirtual 56, 3) := by decide +kernel
theorem d_W_orderTo_15 : decode b_W_orderTo 15 = .ok (.aload_n 1, 1) := by decide +kernel
theorem d_W_orderTo_16 : decode b_W_orderTo 16 = .ok (.invokevirtual 56, 3) := by decide +kernel
theorem d_W_orderTo_19 : decode b_W_orderTo 19 = .ok (.if_icmp .ge 7, 3) := by decide +kernel
theorem d_W_orderTo_22 : decode b_W_orderTo 22 = .ok (.iconst (-1), 1) := by decide +kernel
theorem d_W_orderTo_23 : decode b_W_orderTo 23 = .ok (.goto 4, 3) := by decide +kernel
theorem d_W_orderTo_26 : decode b_W_orderTo 26 = .ok (.iconst 1, 1) := by decide +kernel
theorem d_W_orderTo_27 : decode b_W_orderTo 27 = .ok (.ireturn, 1) := by decide +kernel
theorem d_W_orderTo_28 : decode b_W_orderTo 28 = .ok (.aload_n 0, 1) := by decide +kernel
theorem d_W_orderTo_29 : decode b_W_orderTo 29 = .ok (.getfield 19, 3) := by decide +kernel
theorem d_W_orderTo_32 : decode b_W_orderTo 32 = .ok (.ifCond .eq 11, 3) := by decide +kernel
theorem d_W_orderTo_35 : decode b_W_orderTo 35 = .ok (.aload_n 1, 1) := by decide +kernel
theorem d_W_orderTo_36 : decode b_W_orderTo 36 = .ok (.aload_n 0, 1) := by decide +kernel
theorem d_W_orderTo_37 : decode b_W_orderTo 37 = .ok (.invokevirtual 59, 3) := by decide +kernel
theorem d_W_orderTo_40 : decode b_W_orderTo 40 = .ok (.goto 8, 3) := by decide +kernel
theorem d_W_orderTo_43 : decode b_W_orderTo 43 = .ok (.aload_n 0, 1) := by decide +kernel
theorem d_W_orderTo_44 : decode b_W_orderTo 44 = .ok (.aload_n 1, 1) := by decide +kernel
theorem d_W_orderTo_45 : decode b_W_orderTo 45 = .ok (.invokevirtual 59, 3) := by decide +kernel
theorem d_W_orderTo_48 : decode b_W_orderTo 48 = .ok (.ireturn, 1) := by decide +kernel
theorem d_W_orderOfSizes_0 : decode b_W_orderOfSizes 0 = .ok (.aload_n 0, 1) := by decide +kernel
theorem d_W_orderOfSizes_1 : decode b_W_orderOfSizes 1 = .ok (.getfield 15, 3) := by decide +kernel
theorem d_W_orderOfSizes_4 : decode b_W_orderOfSizes 4 = .ok (.aload_n 1, 1) := by decide +kernel
theorem d_W_orderOfSizes_5 : decode b_W_orderOfSizes 5 = .ok (.getfield 15, 3) := by decide +kernel
theorem d_W_orderOfSizes_8 : decode b_W_orderOfSizes 8 = .ok (.if_icmp .eq 20, 3) := by decide +kernel
theorem d_W_orderOfSizes_11 : decode b_W_orderOfSizes 11 = .ok (.aload_n 0, 1) := by decide +kernel
theorem d_W_orderOfSizes_12 : decode b_W_orderOfSizes 12 = .ok (.getfield 15, 3) := by decide +kernel
theorem d_W_orderOfSizes_15 : decode b_W_orderOfSizes 15 = .ok (.aload_n 1, 1) := by decide +kernel
theorem d_W_orderOfSizes_16 : decode b_W_orderOfSizes 16 = .ok (.getfield 15, 3) := by decide +kernel
theorem d_W_orderOfSizes_19 : decode b_W_orderOfSizes 19 = .ok (.if_icmp .ge 7, 3) := by decide +kernel
theorem d_W_orderOfSizes_22 : decode b_W_orderOfSizes 22 = .ok (.iconst (-1), 1) := by decide +kernel
theorem d_W_orderOfSizes_23 : decode b_W_orderOfSizes 23 = .ok (.goto 4, 3) := by decide +kernel
theorem d_W_orderOfSizes_26 : decode b_W_orderOfSizes 26 = .ok (.iconst 1, 1) := by decide +kernel
theorem d_W_orderOfSizes_27 : decode b_W_orderOfSizes 27 = .ok (.ireturn, 1) := by decide +kernel
theorem d_W_orderOfSizes_28 : decode b_W_orderOfSizes 28 = .ok (.aload_n 0, 1) := by decide +kernel
theorem d_W_orderOfSizes_29 : decode b_W_orderOfSizes 29 = .ok (.getfield 15, 3) := by decide +kernel
theorem d_W_orderOfSizes_32 : decode b_W_orderOfSizes 32 = .ok (.iconst 1, 1) := by decide +kernel
theorem d_W_orderOfSizes_33 : decode b_W_orderOfSizes 33 = .ok (.isub, 1) := by decide +kernel
theorem d_W_orderOfSizes_34 : decode b_W_orderOfSizes 34 = .ok (.istore_n 2, 1) := by decide +kernel
theorem d_W_orderOfSizes_35 : decode b_W_orderOfSizes 35 = .ok (.iload_n 2, 1) := by decide +kernel
theorem d_W_orderOfSizes_36 : decode b_W_orderOfSizes 36 = .ok (.ifCond .lt 45, 3) := by decide +kernel
theorem d_W_orderOfSizes_39 : decode b_W_orderOfSizes 39 = .ok (.aload_n 0, 1) := by decide +kernel
theorem d_W_orderOfSizes_40 : decode b_W_orderOfSizes 40 = .ok (.getfield 9, 3) := by decide +kernel
theorem d_W_orderOfSizes_43 : decode b_W_orderOfSizes 43 = .ok (.iload_n 2, 1) := by decide +kernel
theorem d_W_orderOfSizes_44 : decode b_W_orderOfSizes 44 = .ok (.iaload, 1) := by decide +kernel
theorem d_W_orderOfSizes_45 : decode b_W_orderOfSizes 45 = .ok (.aload_n 1, 1) := by decide +kernel
theorem d_W_orderOfSizes_46 : decode b_W_orderOfSizes 46 = .ok (.getfield 9, 3) := by decide +kernel
theorem d_W_orderOfSizes_49 : decode b_W_orderOfSizes 49 = .ok (.iload_n 2, 1) := by decide +kernel
theorem d_W_orderOfSizes_50 : decode b_W_orderOfSizes 50 = .ok (.iaload, 1) := by decide +kernel
theorem d_W_orderOfSizes_51 : decode b_W_orderOfSizes 51 = .ok (.if_icmp .eq 24, 3) := by decide +kernel
theorem d_W_orderOfSizes_54 : decode b_W_orderOfSizes 54 = .ok (.aload_n 0, 1) := by decide +kernel
theorem d_W_orderOfSizes_55 : decode b_W_orderOfSizes 55 = .ok (.getfield 9, 3) := by decide +kernel
theorem d_W_orderOfSizes_58 : decode b_W_orderOfSizes 58 = .ok (.iload_n 2, 1) := by decide +kernel
theorem d_W_orderOfSizes_59 : decode b_W_orderOfSizes 59 = .ok (.iaload, 1) := by decide +kernel
theorem d_W_orderOfSizes_60 : decode b_W_orderOfSizes 60 = .ok (.aload_n 1, 1) := by decide +kernel
theorem d_W_orderOfSizes_61 : decode b_W_orderOfSizes 61 = .ok (.getfield 9, 3) := by decide +kernel
theorem d_W_orderOfSizes_64 : decode b_W_orderOfSizes 64 = .ok (.iload_n 2, 1) := by decide +kernel
theorem d_W_orderOfSizes_65 : decode b_W_orderOfSizes 65 = .ok (.iaload, 1) := by decide +kernel
theorem d_W_orderOfSizes_66 : decode b_W_orderOfSizes 66 = .ok (.if_icmp .ge 7, 3) := by decide +kernel
theorem d_W_orderOfSizes_69 : decode b_W_orderOfSizes 69 = .ok (.iconst (-1), 1) := by decide +kernel
theorem d_W_orderOfSizes_70 : decode b_W_orderOfSizes 70 = .ok (.goto 4, 3) := by decide +kernel
theorem d_W_orderOfSizes_73 : decode b_W_orderOfSizes 73 = .ok (.iconst 1, 1) := by decide +kernel
theorem d_W_orderOfSizes_74 : decode b_W_orderOfSizes 74 = .ok (.ireturn, 1) := by decide +kernel
theorem d_W_orderOfSizes_75 : decode b_W_orderOfSizes 75 = .ok (.iinc 2 (-1), 3) := by decide +kernel
theorem d_W_orderOfSizes_78 : decode b_W_orderOfSizes 78 = .ok (.goto (-43), 3) := by decide +kernel
theorem d_W_orderOfSizes_81 : decode b_W_orderOfSizes 81 = .ok (.iconst 0, 1) := by decide +kernel
theorem d_W_orderOfSizes_82 : decode b_W_orderOfSizes 82 = .ok (.ireturn, 1) := by decide +kernel
theorem d_W_takeSum_0 : decode b_W_takeSum 0 = .ok (.aload_n 1, 1) := by decide +kernel
theorem d_W_takeSum_1 : decode b_W_takeSum 1 = .ok (.getfield 19, 3) := by decide +kernel
theorem d_W_takeSum_4 : decode b_W_takeSum 4 = .ok (.istore 4, 2) := by decide +kernel
theorem d_W_takeSum_6 : decode b_W_takeSum 6 = .ok (.iload 4, 2) := by decide +kernel
theorem d_W_takeSum_8 : decode b_W_takeSum 8 = .ok (.iload_n 3, 1) := by decide +kernel
theorem d_W_takeSum_9 : decode b_W_takeSum 9 = .ok (.if_icmp .ne 18, 3) := by decide +kernel
theorem d_W_takeSum_12 : decode b_W_takeSum 12 = .ok (.aload_n 0, 1) := by decide +kernel
theorem d_W_takeSum_13 : decode b_W_takeSum 13 = .ok (.aload_n 1, 1) := by decide +kernel
theorem d_W_takeSum_14 : decode b_W_takeSum 14 = .ok (.aload_n 2, 1) := by decide +kernel
theorem d_W_takeSum_15 : decode b_W_takeSum 15 = .ok (.invokevirtual 63, 3) := by decide +kernel
theorem d_W_takeSum_18 : decode b_W_takeSum 18 = .ok (.aload_n 0, 1) := by decide +kernel
theorem d_W_takeSum_19 : decode b_W_takeSum 19 = .ok (.iload 4, 2) := by decide +kernel
theorem d_W_takeSum_21 : decode b_W_takeSum 21 = .ok (.invokevirtual 30, 3) := by decide +kernel
theorem d_W_takeSum_24 : decode b_W_takeSum 24 = .ok (.goto 37, 3) := by decide +kernel
theorem d_W_takeSum_27 : decode b_W_takeSum 27 = .ok (.aload_n 1, 1) := by decide +kernel
theorem d_W_takeSum_28 : decode b_W_takeSum 28 = .ok (.aload_n 2, 1) := by decide +kernel
theorem d_W_takeSum_29 : decode b_W_takeSum 29 = .ok (.invokevirtual 59, 3) := by decide +kernel
theorem d_W_takeSum_32 : decode b_W_takeSum 32 = .ok (.ifCond .lt 18, 3) := by decide +kernel
theorem d_W_takeSum_35 : decode b_W_takeSum 35 = .ok (.aload_n 0, 1) := by decide +kernel
theorem d_W_takeSum_36 : decode b_W_takeSum 36 = .ok (.aload_n 1, 1) := by decide +kernel
theorem d_W_takeSum_37 : decode b_W_takeSum 37 = .ok (.aload_n 2, 1) := by decide +kernel
theorem d_W_takeSum_38 : decode b_W_takeSum 38 = .ok (.invokevirtual 67, 3) := by decide +kernel
theorem d_W_takeSum_41 : decode b_W_takeSum 41 = .ok (.aload_n 0, 1) := by decide +kernel
theorem d_W_takeSum_42 : decode b_W_takeSum 42 = .ok (.iload 4, 2) := by decide +kernel
theorem d_W_takeSum_44 : decode b_W_takeSum 44 = .ok (.invokevirtual 30, 3) := by decide +kernel
theorem d_W_takeSum_47 : decode b_W_takeSum 47 = .ok (.goto 14, 3) := by decide +kernel
theorem d_W_takeSum_50 : decode b_W_takeSum 50 = .ok (.aload_n 0, 1) := by decide +kernel
theorem d_W_takeSum_51 : decode b_W_takeSum 51 = .ok (.aload_n 2, 1) := by decide +kernel
theorem d_W_takeSum_52 : decode b_W_takeSum 52 = .ok (.aload_n 1, 1) := by decide +kernel
theorem d_W_takeSum_53 : decode b_W_takeSum 53 = .ok (.invokevirtual 67, 3) := by decide +kernel
theorem d_W_takeSum_56 : decode b_W_takeSum 56 = .ok (.aload_n 0, 1) := by decide +kernel
theorem d_W_takeSum_57 : decode b_W_takeSum 57 = .ok (.iload_n 3, 1) := by decide +kernel
theorem d_W_takeSum_58 : decode b_W_takeSum 58 = .ok (.invokevirtual 30, 3) := by decide +kernel
theorem d_W_takeSum_61 : decode b_W_takeSum 61 = .ok (.return_, 1) := by decide +kernel
theorem d_W_addSizes_0 : decode b_W_addSizes 0 = .ok (.aload_n 1, 1) := by decide +kernel
theorem d_W_addSizes_1 : decode b_W_addSizes 1 = .ok (.getfield 15, 3) := by decide +kernel
theorem d_W_addSizes_4 : decode b_W_addSizes 4 = .ok (.aload_n 2, 1) := by decide +kernel
theorem d_W_addSizes_5 : decode b_W_addSizes 5 = .ok (.getfield 15, 3) := by decide +kernel
theorem d_W_addSizes_8 : decode b_W_addSizes 8 = .ok (.invokestatic 70, 3) := by decide +kernel
theorem d_W_addSizes_11 : decode b_W_addSizes 11 = .ok (.istore_n 3, 1) := by decide +kernel
theorem d_W_addSizes_12 : decode b_W_addSizes 12 = .ok (.lconst 0, 1) := by decide +kernel
theorem d_W_addSizes_13 : decode b_W_addSizes 13 = .ok (.lstore 4, 2) := by decide +kernel
theorem d_W_addSizes_15 : decode b_W_addSizes 15 = .ok (.iconst 0, 1) := by decide +kernel
theorem d_W_addSizes_16 : decode b_W_addSizes 16 = .ok (.istore 6, 2) := by decide +kernel
theorem d_W_addSizes_18 : decode b_W_addSizes 18 = .ok (.iload 6, 2) := by decide +kernel
theorem d_W_addSizes_20 : decode b_W_addSizes 20 = .ok (.iload_n 3, 1) := by decide +kernel
theorem d_W_addSizes_21 : decode b_W_addSizes 21 = .ok (.if_icmp .ge 50, 3) := by decide +kernel
theorem d_W_addSizes_24 : decode b_W_addSizes 24 = .ok (.aload_n 1, 1) := by decide +kernel
theorem d_W_addSizes_25 : decode b_W_addSizes 25 = .ok (.iload 6, 2) := by decide +kernel
theorem d_W_addSizes_27 : decode b_W_addSizes 27 = .ok (.invokevirtual 27, 3) := by decide +kernel
theorem d_W_addSizes_30 : decode b_W_addSizes 30 = .ok (.i2l, 1) := by decide +kernel
theorem d_W_addSizes_31 : decode b_W_addSizes 31 = .ok (.aload_n 2, 1) := by decide +kernel
theorem d_W_addSizes_32 : decode b_W_addSizes 32 = .ok (.iload 6, 2) := by decide +kernel
theorem d_W_addSizes_34 : decode b_W_addSizes 34 = .ok (.invokevirtual 27, 3) := by decide +kernel
theorem d_W_addSizes_37 : decode b_W_addSizes 37 = .ok (.i2l, 1) := by decide +kernel
theorem d_W_addSizes_38 : decode b_W_addSizes 38 = .ok (.ladd, 1) := by decide +kernel
theorem d_W_addSizes_39 : decode b_W_addSizes 39 = .ok (.lload 4, 2) := by decide +kernel
theorem d_W_addSizes_41 : decode b_W_addSizes 41 = .ok (.ladd, 1) := by decide +kernel
theorem d_W_addSizes_42 : decode b_W_addSizes 42 = .ok (.lstore 7, 2) := by decide +kernel
theorem d_W_addSizes_44 : decode b_W_addSizes 44 = .ok (.aload_n 0, 1) := by decide +kernel
theorem d_W_addSizes_45 : decode b_W_addSizes 45 = .ok (.getfield 9, 3) := by decide +kernel
theorem d_W_addSizes_48 : decode b_W_addSizes 48 = .ok (.iload 6, 2) := by decide +kernel
theorem d_W_addSizes_50 : decode b_W_addSizes 50 = .ok (.lload 7, 2) := by decide +kernel
theorem d_W_addSizes_52 : decode b_W_addSizes 52 = .ok (.ldc2_w 34, 3) := by decide +kernel
theorem d_W_addSizes_55 : decode b_W_addSizes 55 = .ok (.land, 1) := by decide +kernel
theorem d_W_addSizes_56 : decode b_W_addSizes 56 = .ok (.l2i, 1) := by decide +kernel
theorem d_W_addSizes_57 : decode b_W_addSizes 57 = .ok (.iastore, 1) := by decide +kernel
theorem d_W_addSizes_58 : decode b_W_addSizes 58 = .ok (.lload 7, 2) := by decide +kernel
theorem d_W_addSizes_60 : decode b_W_addSizes 60 = .ok (.bipush 31, 2) := by decide +kernel
theorem d_W_addSizes_62 : decode b_W_addSizes 62 = .ok (.lushr, 1) := by decide +kernel
theorem d_W_addSizes_63 : decode b_W_addSizes 63 = .ok (.lstore 4, 2) := by decide +kernel
theorem d_W_addSizes_65 : decode b_W_addSizes 65 = .ok (.iinc 6 1, 3) := by decide +kernel
theorem d_W_addSizes_68 : decode b_W_addSizes 68 = .ok (.goto (-50), 3) := by decide +kernel
theorem d_W_addSizes_71 : decode b_W_addSizes 71 = .ok (.aload_n 0, 1) := by decide +kernel
theorem d_W_addSizes_72 : decode b_W_addSizes 72 = .ok (.getfield 9, 3) := by decide +kernel
theorem d_W_addSizes_75 : decode b_W_addSizes 75 = .ok (.iload_n 3, 1) := by decide +kernel
theorem d_W_addSizes_76 : decode b_W_addSizes 76 = .ok (.lload 4, 2) := by decide +kernel
theorem d_W_addSizes_78 : decode b_W_addSizes 78 = .ok (.l2i, 1) := by decide +kernel
theorem d_W_addSizes_79 : decode b_W_addSizes 79 = .ok (.iastore, 1) := by decide +kernel
theorem d_W_addSizes_80 : decode b_W_addSizes 80 = .ok (.aload_n 0, 1) := by decide +kernel
theorem d_W_addSizes_81 : decode b_W_addSizes 81 = .ok (.iload_n 3, 1) := by decide +kernel
theorem d_W_addSizes_82 : decode b_W_addSizes 82 = .ok (.iconst 1, 1) := by decide +kernel
theorem d_W_addSizes_83 : decode b_W_addSizes 83 = .ok (.iadd, 1) := by decide +kernel
theorem d_W_addSizes_84 : decode b_W_addSizes 84 = .ok (.invokevirtual 36, 3) := by decide +kernel
theorem d_W_addSizes_87 : decode b_W_addSizes 87 = .ok (.return_, 1) := by decide +kernel
theorem d_W_subtractSizes_0 : decode b_W_subtractSizes 0 = .ok (.aload_n 1, 1) := by decide +kernel
theorem d_W_subtractSizes_1 : decode b_W_subtractSizes 1 = .ok (.getfield 15, 3) := by decide +kernel
theorem d_W_subtractSizes_4 : decode b_W_subtractSizes 4 = .ok (.istore_n 3, 1) := by decide +kernel
theorem d_W_subtractSizes_5 : decode b_W_subtractSizes 5 = .ok (.iconst 0, 1) := by decide +kernel
theorem d_W_subtractSizes_6 : decode b_W_subtractSizes 6 = .ok (.istore 4, 2) := by decide +kernel
theorem d_W_subtractSizes_8 : decode b_W_subtractSizes 8 = .ok (.iconst 0, 1) := by decide +kernel
theorem d_W_subtractSizes_9 : decode b_W_subtractSizes 9 = .ok (.istore 5, 2) := by decide +kernel
theorem d_W_subtractSizes_11 : decode b_W_subtractSizes 11 = .ok (.iload 5, 2) := by decide +kernel
theorem d_W_subtractSizes_13 : decode b_W_subtractSizes 13 = .ok (.iload_n 3, 1) := by decide +kernel
theorem d_W_subtractSizes_14 : decode b_W_subtractSizes 14 = .ok (.if_icmp .ge 52, 3) := by decide +kernel
theorem d_W_subtractSizes_17 : decode b_W_subtractSizes 17 = .ok (.aload_n 1, 1) := by decide +kernel
theorem d_W_subtractSizes_18 : decode b_W_subtractSizes 18 = .ok (.getfield 9, 3) := by decide +kernel
theorem d_W_subtractSizes_21 : decode b_W_subtractSizes 21 = .ok (.iload 5, 2) := by decide +kernel
theorem d_W_subtractSizes_23 : decode b_W_subtractSizes 23 = .ok (.iaload, 1) := by decide +kernel
theorem d_W_subtractSizes_24 : decode b_W_subtractSizes 24 = .ok (.aload_n 2, 1) := by decide +kernel
theorem d_W_subtractSizes_25 : decode b_W_subtractSizes 25 = .ok (.iload 5, 2) := by decide +kernel
theorem d_W_subtractSizes_27 : decode b_W_subtractSizes 27 = .ok (.invokevirtual 27, 3) := by decide +kernel
theorem d_W_subtractSizes_30 : decode b_W_subtractSizes 30 = .ok (.isub, 1) := by decide +kernel
theorem d_W_subtractSizes_31 : decode b_W_subtractSizes 31 = .ok (.iload 4, 2) := by decide +kernel
theorem d_W_subtractSizes_33 : decode b_W_subtractSizes 33 = .ok (.isub, 1) := by decide +kernel
theorem d_W_subtractSizes_34 : decode b_W_subtractSizes 34 = .ok (.istore 6, 2) := by decide +kernel
theorem d_W_subtractSizes_36 : decode b_W_subtractSizes 36 = .ok (.aload_n 0, 1) := by decide +kernel
theorem d_W_subtractSizes_37 : decode b_W_subtractSizes 37 = .ok (.getfield 9, 3) := by decide +kernel
theorem d_W_subtractSizes_40 : decode b_W_subtractSizes 40 = .ok (.iload 5, 2) := by decide +kernel
theorem d_W_subtractSizes_42 : decode b_W_subtractSizes 42 = .ok (.iload 6, 2) := by decide +kernel
theorem d_W_subtractSizes_44 : decode b_W_subtractSizes 44 = .ok (.ldc 76, 2) := by decide +kernel
theorem d_W_subtractSizes_46 : decode b_W_subtractSizes 46 = .ok (.iand, 1) := by decide +kernel
theorem d_W_subtractSizes_47 : decode b_W_subtractSizes 47 = .ok (.iastore, 1) := by decide +kernel
theorem d_W_subtractSizes_48 : decode b_W_subtractSizes 48 = .ok (.iload 6, 2) := by decide +kernel
theorem d_W_subtractSizes_50 : decode b_W_subtractSizes 50 = .ok (.ifCond .ge 7, 3) := by decide +kernel
theorem d_W_subtractSizes_53 : decode b_W_subtractSizes 53 = .ok (.iconst 1, 1) := by decide +kernel
theorem d_W_subtractSizes_54 : decode b_W_subtractSizes 54 = .ok (.goto 4, 3) := by decide +kernel
theorem d_W_subtractSizes_57 : decode b_W_subtractSizes 57 = .ok (.iconst 0, 1) := by decide +kernel
theorem d_W_subtractSizes_58 : decode b_W_subtractSizes 58 = .ok (.istore 4, 2) := by decide +kernel
theorem d_W_subtractSizes_60 : decode b_W_subtractSizes 60 = .ok (.iinc 5 1, 3) := by decide +kernel
theorem d_W_subtractSizes_63 : decode b_W_subtractSizes 63 = .ok (.goto (-52), 3) := by decide +kernel
theorem d_W_subtractSizes_66 : decode b_W_subtractSizes 66 = .ok (.aload_n 0, 1) := by decide +kernel
theorem d_W_subtractSizes_67 : decode b_W_subtractSizes 67 = .ok (.iload_n 3, 1) := by decide +kernel
theorem d_W_subtractSizes_68 : decode b_W_subtractSizes 68 = .ok (.invokevirtual 36, 3) := by decide +kernel
theorem d_W_subtractSizes_71 : decode b_W_subtractSizes 71 = .ok (.return_, 1) := by decide +kernel
theorem d_W_growByOne_0 : decode b_W_growByOne 0 = .ok (.aload_n 0, 1) := by decide +kernel
theorem d_W_growByOne_1 : decode b_W_growByOne 1 = .ok (.lconst 1, 1) := by decide +kernel
theorem d_W_growByOne_2 : decode b_W_growByOne 2 = .ok (.lconst 1, 1) := by decide +kernel
theorem d_W_growByOne_3 : decode b_W_growByOne 3 = .ok (.invokevirtual 77, 3) := by decide +kernel
theorem d_W_growByOne_6 : decode b_W_growByOne 6 = .ok (.return_, 1) := by decide +kernel
theorem d_W_growBy_0 : decode b_W_growBy 0 = .ok (.lload_n 3, 1) := by decide +kernel
theorem d_W_growBy_1 : decode b_W_growBy 1 = .ok (.lstore 5, 2) := by decide +kernel
theorem d_W_growBy_3 : decode b_W_growBy 3 = .ok (.iconst 0, 1) := by decide +kernel
theorem d_W_growBy_4 : decode b_W_growBy 4 = .ok (.istore 7, 2) := by decide +kernel
theorem d_W_growBy_6 : decode b_W_growBy 6 = .ok (.iload 7, 2) := by decide +kernel
theorem d_W_growBy_8 : decode b_W_growBy 8 = .ok (.aload_n 0, 1) := by decide +kernel
theorem d_W_growBy_9 : decode b_W_growBy 9 = .ok (.getfield 15, 3) := by decide +kernel
theorem d_W_growBy_12 : decode b_W_growBy 12 = .ok (.if_icmp .ge 45, 3) := by decide +kernel
theorem d_W_growBy_15 : decode b_W_growBy 15 = .ok (.aload_n 0, 1) := by decide +kernel
theorem d_W_growBy_16 : decode b_W_growBy 16 = .ok (.getfield 9, 3) := by decide +kernel
theorem d_W_growBy_19 : decode b_W_growBy 19 = .ok (.iload 7, 2) := by decide +kernel
theorem d_W_growBy_21 : decode b_W_growBy 21 = .ok (.iaload, 1) := by decide +kernel
theorem d_W_growBy_22 : decode b_W_growBy 22 = .ok (.i2l, 1) := by decide +kernel
theorem d_W_growBy_23 : decode b_W_growBy 23 = .ok (.lload_n 1, 1) := by decide +kernel
theorem d_W_growBy_24 : decode b_W_growBy 24 = .ok (.lmul, 1) := by decide +kernel
theorem d_W_growBy_25 : decode b_W_growBy 25 = .ok (.lload 5, 2) := by decide +kernel
theorem d_W_growBy_27 : decode b_W_growBy 27 = .ok (.ladd, 1) := by decide +kernel
theorem d_W_growBy_28 : decode b_W_growBy 28 = .ok (.lstore 8, 2) := by decide +kernel
theorem d_W_growBy_30 : decode b_W_growBy 30 = .ok (.aload_n 0, 1) := by decide +kernel
theorem d_W_growBy_31 : decode b_W_growBy 31 = .ok (.getfield 9, 3) := by decide +kernel
