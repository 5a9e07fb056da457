theorem d_D_cutSigned_2 : decode b_D_cutSigned 2 = .ok (.aload_n 2, 1) := by decide +kernel
theorem d_D_cutSigned_3 : decode b_D_cutSigned 3 = .ok (.invokevirtual 30, 3) := by decide +kernel
theorem d_D_cutSigned_6 : decode b_D_cutSigned 6 = .ok (.aload_n 0, 1) := by decide +kernel
theorem d_D_cutSigned_7 : decode b_D_cutSigned 7 = .ok (.getfield 14, 3) := by decide +kernel
theorem d_D_cutSigned_10 : decode b_D_cutSigned 10 = .ok (.aload_n 1, 1) := by decide +kernel
theorem d_D_cutSigned_11 : decode b_D_cutSigned 11 = .ok (.getfield 34, 3) := by decide +kernel
theorem d_D_cutSigned_14 : decode b_D_cutSigned 14 = .ok (.aload_n 2, 1) := by decide +kernel
theorem d_D_cutSigned_15 : decode b_D_cutSigned 15 = .ok (.getfield 34, 3) := by decide +kernel
theorem d_D_cutSigned_18 : decode b_D_cutSigned 18 = .ok (.if_icmp .eq 7, 3) := by decide +kernel
theorem d_D_cutSigned_21 : decode b_D_cutSigned 21 = .ok (.iconst 1, 1) := by decide +kernel
theorem d_D_cutSigned_22 : decode b_D_cutSigned 22 = .ok (.goto 4, 3) := by decide +kernel
theorem d_D_cutSigned_25 : decode b_D_cutSigned 25 = .ok (.iconst 0, 1) := by decide +kernel
theorem d_D_cutSigned_26 : decode b_D_cutSigned 26 = .ok (.invokevirtual 38, 3) := by decide +kernel
theorem d_D_cutSigned_29 : decode b_D_cutSigned 29 = .ok (.aload_n 0, 1) := by decide +kernel
theorem d_D_cutSigned_30 : decode b_D_cutSigned 30 = .ok (.getfield 20, 3) := by decide +kernel
theorem d_D_cutSigned_33 : decode b_D_cutSigned 33 = .ok (.aload_n 1, 1) := by decide +kernel
theorem d_D_cutSigned_34 : decode b_D_cutSigned 34 = .ok (.getfield 34, 3) := by decide +kernel
theorem d_D_cutSigned_37 : decode b_D_cutSigned 37 = .ok (.invokevirtual 38, 3) := by decide +kernel
theorem d_D_cutSigned_40 : decode b_D_cutSigned 40 = .ok (.return_, 1) := by decide +kernel
theorem d_D_roundDown_0 : decode b_D_roundDown 0 = .ok (.aload_n 0, 1) := by decide +kernel
theorem d_D_roundDown_1 : decode b_D_roundDown 1 = .ok (.getfield 20, 3) := by decide +kernel
theorem d_D_roundDown_4 : decode b_D_roundDown 4 = .ok (.invokevirtual 42, 3) := by decide +kernel
theorem d_D_roundDown_7 : decode b_D_roundDown 7 = .ok (.aload_n 1, 1) := by decide +kernel
theorem d_D_roundDown_8 : decode b_D_roundDown 8 = .ok (.invokevirtual 42, 3) := by decide +kernel
theorem d_D_roundDown_11 : decode b_D_roundDown 11 = .ok (.imul, 1) := by decide +kernel
theorem d_D_roundDown_12 : decode b_D_roundDown 12 = .ok (.ifCond .ge 34, 3) := by decide +kernel
theorem d_D_roundDown_15 : decode b_D_roundDown 15 = .ok (.aload_n 0, 1) := by decide +kernel
theorem d_D_roundDown_16 : decode b_D_roundDown 16 = .ok (.getfield 20, 3) := by decide +kernel
theorem d_D_roundDown_19 : decode b_D_roundDown 19 = .ok (.aload_n 0, 1) := by decide +kernel
theorem d_D_roundDown_20 : decode b_D_roundDown 20 = .ok (.getfield 20, 3) := by decide +kernel
theorem d_D_roundDown_23 : decode b_D_roundDown 23 = .ok (.aload_n 1, 1) := by decide +kernel
theorem d_D_roundDown_24 : decode b_D_roundDown 24 = .ok (.aload_n 1, 1) := by decide +kernel
theorem d_D_roundDown_25 : decode b_D_roundDown 25 = .ok (.getfield 34, 3) := by decide +kernel
theorem d_D_roundDown_28 : decode b_D_roundDown 28 = .ok (.invokevirtual 46, 3) := by decide +kernel
theorem d_D_roundDown_31 : decode b_D_roundDown 31 = .ok (.aload_n 0, 1) := by decide +kernel
theorem d_D_roundDown_32 : decode b_D_roundDown 32 = .ok (.getfield 14, 3) := by decide +kernel
theorem d_D_roundDown_35 : decode b_D_roundDown 35 = .ok (.invokevirtual 50, 3) := by decide +kernel
theorem d_D_roundDown_38 : decode b_D_roundDown 38 = .ok (.aload_n 0, 1) := by decide +kernel
theorem d_D_roundDown_39 : decode b_D_roundDown 39 = .ok (.getfield 14, 3) := by decide +kernel
theorem d_D_roundDown_42 : decode b_D_roundDown 42 = .ok (.iconst 1, 1) := by decide +kernel
theorem d_D_roundDown_43 : decode b_D_roundDown 43 = .ok (.invokevirtual 38, 3) := by decide +kernel
theorem d_D_roundDown_46 : decode b_D_roundDown 46 = .ok (.return_, 1) := by decide +kernel
theorem d_D_cut_0 : decode b_D_cut 0 = .ok (.aload_n 0, 1) := by decide +kernel
theorem d_D_cut_1 : decode b_D_cut 1 = .ok (.getfield 14, 3) := by decide +kernel
theorem d_D_cut_4 : decode b_D_cut 4 = .ok (.lconst 0, 1) := by decide +kernel
theorem d_D_cut_5 : decode b_D_cut 5 = .ok (.invokevirtual 53, 3) := by decide +kernel
theorem d_D_cut_8 : decode b_D_cut 8 = .ok (.aload_n 1, 1) := by decide +kernel
theorem d_D_cut_9 : decode b_D_cut 9 = .ok (.aload_n 2, 1) := by decide +kernel
theorem d_D_cut_10 : decode b_D_cut 10 = .ok (.invokevirtual 57, 3) := by decide +kernel
theorem d_D_cut_13 : decode b_D_cut 13 = .ok (.ifCond .ge 20, 3) := by decide +kernel
theorem d_D_cut_16 : decode b_D_cut 16 = .ok (.aload_n 0, 1) := by decide +kernel
theorem d_D_cut_17 : decode b_D_cut 17 = .ok (.getfield 20, 3) := by decide +kernel
theorem d_D_cut_20 : decode b_D_cut 20 = .ok (.aload_n 1, 1) := by decide +kernel
theorem d_D_cut_21 : decode b_D_cut 21 = .ok (.invokevirtual 61, 3) := by decide +kernel
theorem d_D_cut_24 : decode b_D_cut 24 = .ok (.aload_n 0, 1) := by decide +kernel
theorem d_D_cut_25 : decode b_D_cut 25 = .ok (.getfield 20, 3) := by decide +kernel
theorem d_D_cut_28 : decode b_D_cut 28 = .ok (.iconst 0, 1) := by decide +kernel
theorem d_D_cut_29 : decode b_D_cut 29 = .ok (.invokevirtual 38, 3) := by decide +kernel
theorem d_D_cut_32 : decode b_D_cut 32 = .ok (.return_, 1) := by decide +kernel
theorem d_D_cut_33 : decode b_D_cut 33 = .ok (.aload_n 2, 1) := by decide +kernel
theorem d_D_cut_34 : decode b_D_cut 34 = .ok (.getfield 65, 3) := by decide +kernel
theorem d_D_cut_37 : decode b_D_cut 37 = .ok (.istore_n 3, 1) := by decide +kernel
theorem d_D_cut_38 : decode b_D_cut 38 = .ok (.aload_n 1, 1) := by decide +kernel
theorem d_D_cut_39 : decode b_D_cut 39 = .ok (.getfield 65, 3) := by decide +kernel
theorem d_D_cut_42 : decode b_D_cut 42 = .ok (.iload_n 3, 1) := by decide +kernel
theorem d_D_cut_43 : decode b_D_cut 43 = .ok (.isub, 1) := by decide +kernel
theorem d_D_cut_44 : decode b_D_cut 44 = .ok (.iconst 1, 1) := by decide +kernel
theorem d_D_cut_45 : decode b_D_cut 45 = .ok (.iadd, 1) := by decide +kernel
theorem d_D_cut_46 : decode b_D_cut 46 = .ok (.istore 4, 2) := by decide +kernel
theorem d_D_cut_48 : decode b_D_cut 48 = .ok (.bipush 31, 2) := by decide +kernel
theorem d_D_cut_50 : decode b_D_cut 50 = .ok (.aload_n 2, 1) := by decide +kernel
theorem d_D_cut_51 : decode b_D_cut 51 = .ok (.getfield 69, 3) := by decide +kernel
theorem d_D_cut_54 : decode b_D_cut 54 = .ok (.iload_n 3, 1) := by decide +kernel
theorem d_D_cut_55 : decode b_D_cut 55 = .ok (.iconst 1, 1) := by decide +kernel
theorem d_D_cut_56 : decode b_D_cut 56 = .ok (.isub, 1) := by decide +kernel
theorem d_D_cut_57 : decode b_D_cut 57 = .ok (.iaload, 1) := by decide +kernel
theorem d_D_cut_58 : decode b_D_cut 58 = .ok (.invokestatic 72, 3) := by decide +kernel
theorem d_D_cut_61 : decode b_D_cut 61 = .ok (.isub, 1) := by decide +kernel
theorem d_D_cut_62 : decode b_D_cut 62 = .ok (.istore 5, 2) := by decide +kernel
theorem d_D_cut_64 : decode b_D_cut 64 = .ok (.aload_n 2, 1) := by decide +kernel
theorem d_D_cut_65 : decode b_D_cut 65 = .ok (.aload_n 0, 1) := by decide +kernel
theorem d_D_cut_66 : decode b_D_cut 66 = .ok (.getfield 27, 3) := by decide +kernel
theorem d_D_cut_69 : decode b_D_cut 69 = .ok (.iconst 0, 1) := by decide +kernel
theorem d_D_cut_70 : decode b_D_cut 70 = .ok (.iload 5, 2) := by decide +kernel
theorem d_D_cut_72 : decode b_D_cut 72 = .ok (.invokevirtual 76, 3) := by decide +kernel
theorem d_D_cut_75 : decode b_D_cut 75 = .ok (.aload_n 1, 1) := by decide +kernel
theorem d_D_cut_76 : decode b_D_cut 76 = .ok (.aload_n 0, 1) := by decide +kernel
theorem d_D_cut_77 : decode b_D_cut 77 = .ok (.getfield 23, 3) := by decide +kernel
theorem d_D_cut_80 : decode b_D_cut 80 = .ok (.iconst 0, 1) := by decide +kernel
theorem d_D_cut_81 : decode b_D_cut 81 = .ok (.iload 5, 2) := by decide +kernel
theorem d_D_cut_83 : decode b_D_cut 83 = .ok (.invokevirtual 76, 3) := by decide +kernel
theorem d_D_cut_86 : decode b_D_cut 86 = .ok (.iload 4, 2) := by decide +kernel
theorem d_D_cut_88 : decode b_D_cut 88 = .ok (.iconst 1, 1) := by decide +kernel
theorem d_D_cut_89 : decode b_D_cut 89 = .ok (.isub, 1) := by decide +kernel
theorem d_D_cut_90 : decode b_D_cut 90 = .ok (.istore 6, 2) := by decide +kernel
theorem d_D_cut_92 : decode b_D_cut 92 = .ok (.iload 6, 2) := by decide +kernel
theorem d_D_cut_94 : decode b_D_cut 94 = .ok (.ifCond .lt 26, 3) := by decide +kernel
theorem d_D_cut_97 : decode b_D_cut 97 = .ok (.aload_n 0, 1) := by decide +kernel
theorem d_D_cut_98 : decode b_D_cut 98 = .ok (.getfield 14, 3) := by decide +kernel
theorem d_D_cut_101 : decode b_D_cut 101 = .ok (.getfield 69, 3) := by decide +kernel
theorem d_D_cut_104 : decode b_D_cut 104 = .ok (.iload 6, 2) := by decide +kernel
theorem d_D_cut_106 : decode b_D_cut 106 = .ok (.aload_n 0, 1) := by decide +kernel
theorem d_D_cut_107 : decode b_D_cut 107 = .ok (.iload 6, 2) := by decide +kernel
theorem d_D_cut_109 : decode b_D_cut 109 = .ok (.iload_n 3, 1) := by decide +kernel
theorem d_D_cut_110 : decode b_D_cut 110 = .ok (.invokevirtual 80, 3) := by decide +kernel
theorem d_D_cut_113 : decode b_D_cut 113 = .ok (.iastore, 1) := by decide +kernel
theorem d_D_cut_114 : decode b_D_cut 114 = .ok (.iinc 6 (-1), 3) := by decide +kernel
theorem d_D_cut_117 : decode b_D_cut 117 = .ok (.goto (-25), 3) := by decide +kernel
theorem d_D_cut_120 : decode b_D_cut 120 = .ok (.aload_n 0, 1) := by decide +kernel
theorem d_D_cut_121 : decode b_D_cut 121 = .ok (.getfield 14, 3) := by decide +kernel
theorem d_D_cut_124 : decode b_D_cut 124 = .ok (.iload 4, 2) := by decide +kernel
theorem d_D_cut_126 : decode b_D_cut 126 = .ok (.invokevirtual 84, 3) := by decide +kernel
theorem d_D_cut_129 : decode b_D_cut 129 = .ok (.aload_n 0, 1) := by decide +kernel
theorem d_D_cut_130 : decode b_D_cut 130 = .ok (.iload_n 3, 1) := by decide +kernel
theorem d_D_cut_131 : decode b_D_cut 131 = .ok (.iload 5, 2) := by decide +kernel
theorem d_D_cut_133 : decode b_D_cut 133 = .ok (.invokevirtual 87, 3) := by decide +kernel
theorem d_D_cut_136 : decode b_D_cut 136 = .ok (.return_, 1) := by decide +kernel
theorem d_D_digitAt_0 : decode b_D_digitAt 0 = .ok (.aload_n 0, 1) := by decide +kernel
theorem d_D_digitAt_1 : decode b_D_digitAt 1 = .ok (.iload_n 1, 1) := by decide +kernel
theorem d_D_digitAt_2 : decode b_D_digitAt 2 = .ok (.iload_n 2, 1) := by decide +kernel
theorem d_D_digitAt_3 : decode b_D_digitAt 3 = .ok (.invokevirtual 91, 3) := by decide +kernel
theorem d_D_digitAt_6 : decode b_D_digitAt 6 = .ok (.lstore_n 3, 1) := by decide +kernel
theorem d_D_digitAt_7 : decode b_D_digitAt 7 = .ok (.aload_n 0, 1) := by decide +kernel
theorem d_D_digitAt_8 : decode b_D_digitAt 8 = .ok (.lload_n 3, 1) := by decide +kernel
theorem d_D_digitAt_9 : decode b_D_digitAt 9 = .ok (.iload_n 1, 1) := by decide +kernel
theorem d_D_digitAt_10 : decode b_D_digitAt 10 = .ok (.iload_n 2, 1) := by decide +kernel
theorem d_D_digitAt_11 : decode b_D_digitAt 11 = .ok (.invokevirtual 95, 3) := by decide +kernel
theorem d_D_digitAt_14 : decode b_D_digitAt 14 = .ok (.ifCond .eq 13, 3) := by decide +kernel
theorem d_D_digitAt_17 : decode b_D_digitAt 17 = .ok (.aload_n 0, 1) := by decide +kernel
theorem d_D_digitAt_18 : decode b_D_digitAt 18 = .ok (.iload_n 1, 1) := by decide +kernel
theorem d_D_digitAt_19 : decode b_D_digitAt 19 = .ok (.iload_n 2, 1) := by decide +kernel
theorem d_D_digitAt_20 : decode b_D_digitAt 20 = .ok (.invokevirtual 99, 3) := by decide +kernel
theorem d_D_digitAt_23 : decode b_D_digitAt 23 = .ok (.lload_n 3, 1) := by decide +kernel
theorem d_D_digitAt_24 : decode b_D_digitAt 24 = .ok (.lconst 1, 1) := by decide +kernel
theorem d_D_digitAt_25 : decode b_D_digitAt 25 = .ok (.lsub, 1) := by decide +kernel
theorem d_D_digitAt_26 : decode b_D_digitAt 26 = .ok (.lstore_n 3, 1) := by decide +kernel
theorem d_D_digitAt_27 : decode b_D_digitAt 27 = .ok (.lload_n 3, 1) := by decide +kernel
theorem d_D_digitAt_28 : decode b_D_digitAt 28 = .ok (.l2i, 1) := by decide +kernel
theorem d_D_digitAt_29 : decode b_D_digitAt 29 = .ok (.ireturn, 1) := by decide +kernel
theorem d_D_guessAt_0 : decode b_D_guessAt 0 = .ok (.aload_n 0, 1) := by decide +kernel
theorem d_D_guessAt_1 : decode b_D_guessAt 1 = .ok (.getfield 27, 3) := by decide +kernel
theorem d_D_guessAt_4 : decode b_D_guessAt 4 = .ok (.iload_n 2, 1) := by decide +kernel
theorem d_D_guessAt_5 : decode b_D_guessAt 5 = .ok (.iconst 1, 1) := by decide +kernel
theorem d_D_guessAt_6 : decode b_D_guessAt 6 = .ok (.isub, 1) := by decide +kernel
theorem d_D_guessAt_7 : decode b_D_guessAt 7 = .ok (.iaload, 1) := by decide +kernel
theorem d_D_guessAt_8 : decode b_D_guessAt 8 = .ok (.i2l, 1) := by decide +kernel
theorem d_D_guessAt_9 : decode b_D_guessAt 9 = .ok (.lstore_n 3, 1) := by decide +kernel
theorem d_D_guessAt_10 : decode b_D_guessAt 10 = .ok (.iload_n 2, 1) := by decide +kernel
theorem d_D_guessAt_11 : decode b_D_guessAt 11 = .ok (.iconst 1, 1) := by decide +kernel
theorem d_D_guessAt_12 : decode b_D_guessAt 12 = .ok (.if_icmp .le 15, 3) := by decide +kernel
theorem d_D_guessAt_15 : decode b_D_guessAt 15 = .ok (.aload_n 0, 1) := by decide +kernel
theorem d_D_guessAt_16 : decode b_D_guessAt 16 = .ok (.getfield 27, 3) := by decide +kernel
theorem d_D_guessAt_19 : decode b_D_guessAt 19 = .ok (.iload_n 2, 1) := by decide +kernel
theorem d_D_guessAt_20 : decode b_D_guessAt 20 = .ok (.iconst 2, 1) := by decide +kernel
theorem d_D_guessAt_21 : decode b_D_guessAt 21 = .ok (.isub, 1) := by decide +kernel
theorem d_D_guessAt_22 : decode b_D_guessAt 22 = .ok (.iaload, 1) := by decide +kernel
theorem d_D_guessAt_23 : decode b_D_guessAt 23 = .ok (.i2l, 1) := by decide +kernel
theorem d_D_guessAt_24 : decode b_D_guessAt 24 = .ok (.goto 4, 3) := by decide +kernel
theorem d_D_guessAt_27 : decode b_D_guessAt 27 = .ok (.lconst 0, 1) := by decide +kernel
theorem d_D_guessAt_28 : decode b_D_guessAt 28 = .ok (.lstore 5, 2) := by decide +kernel
theorem d_D_guessAt_30 : decode b_D_guessAt 30 = .ok (.iload_n 2, 1) := by decide +kernel
theorem d_D_guessAt_31 : decode b_D_guessAt 31 = .ok (.iconst 1, 1) := by decide +kernel
theorem d_D_guessAt_32 : decode b_D_guessAt 32 = .ok (.if_icmp .le 17, 3) := by decide +kernel
theorem d_D_guessAt_35 : decode b_D_guessAt 35 = .ok (.aload_n 0, 1) := by decide +kernel
theorem d_D_guessAt_36 : decode b_D_guessAt 36 = .ok (.getfield 23, 3) := by decide +kernel
theorem d_D_guessAt_39 : decode b_D_guessAt 39 = .ok (.iload_n 1, 1) := by decide +kernel
theorem d_D_guessAt_40 : decode b_D_guessAt 40 = .ok (.iload_n 2, 1) := by decide +kernel
theorem d_D_guessAt_41 : decode b_D_guessAt 41 = .ok (.iadd, 1) := by decide +kernel
theorem d_D_guessAt_42 : decode b_D_guessAt 42 = .ok (.iconst 2, 1) := by decide +kernel
theorem d_D_guessAt_43 : decode b_D_guessAt 43 = .ok (.isub, 1) := by decide +kernel
theorem d_D_guessAt_44 : decode b_D_guessAt 44 = .ok (.iaload, 1) := by decide +kernel
theorem d_D_guessAt_45 : decode b_D_guessAt 45 = .ok (.i2l, 1) := by decide +kernel
theorem d_D_guessAt_46 : decode b_D_guessAt 46 = .ok (.goto 4, 3) := by decide +kernel
theorem d_D_guessAt_49 : decode b_D_guessAt 49 = .ok (.lconst 0, 1) := by decide +kernel
theorem d_D_guessAt_50 : decode b_D_guessAt 50 = .ok (.lstore 7, 2) := by decide +kernel
theorem d_D_guessAt_52 : decode b_D_guessAt 52 = .ok (.aload_n 0, 1) := by decide +kernel
theorem d_D_guessAt_53 : decode b_D_guessAt 53 = .ok (.getfield 23, 3) := by decide +kernel
theorem d_D_guessAt_56 : decode b_D_guessAt 56 = .ok (.iload_n 1, 1) := by decide +kernel
theorem d_D_guessAt_57 : decode b_D_guessAt 57 = .ok (.iload_n 2, 1) := by decide +kernel
theorem d_D_guessAt_58 : decode b_D_guessAt 58 = .ok (.iadd, 1) := by decide +kernel
theorem d_D_guessAt_59 : decode b_D_guessAt 59 = .ok (.iaload, 1) := by decide +kernel
theorem d_D_guessAt_60 : decode b_D_guessAt 60 = .ok (.i2l, 1) := by decide +kernel
theorem d_D_guessAt_61 : decode b_D_guessAt 61 = .ok (.bipush 31, 2) := by decide +kernel
theorem d_D_guessAt_63 : decode b_D_guessAt 63 = .ok (.lshl, 1) := by decide +kernel
theorem d_D_guessAt_64 : decode b_D_guessAt 64 = .ok (.aload_n 0, 1) := by decide +kernel
theorem d_D_guessAt_65 : decode b_D_guessAt 65 = .ok (.getfield 23, 3) := by decide +kernel
theorem d_D_guessAt_68 : decode b_D_guessAt 68 = .ok (.iload_n 1, 1) := by decide +kernel
theorem d_D_guessAt_69 : decode b_D_guessAt 69 = .ok (.iload_n 2, 1) := by decide +kernel
theorem d_D_guessAt_70 : decode b_D_guessAt 70 = .ok (.iadd, 1) := by decide +kernel
theorem d_D_guessAt_71 : decode b_D_guessAt 71 = .ok (.iconst 1, 1) := by decide +kernel
theorem d_D_guessAt_72 : decode b_D_guessAt 72 = .ok (.isub, 1) := by decide +kernel
theorem d_D_guessAt_73 : decode b_D_guessAt 73 = .ok (.iaload, 1) := by decide +kernel
theorem d_D_guessAt_74 : decode b_D_guessAt 74 = .ok (.i2l, 1) := by decide +kernel
theorem d_D_guessAt_75 : decode b_D_guessAt 75 = .ok (.lor, 1) := by decide +kernel
theorem d_D_guessAt_76 : decode b_D_guessAt 76 = .ok (.lstore 9, 2) := by decide +kernel
theorem d_D_guessAt_78 : decode b_D_guessAt 78 = .ok (.lload 9, 2) := by decide +kernel
theorem d_D_guessAt_80 : decode b_D_guessAt 80 = .ok (.lload_n 3, 1) := by decide +kernel
theorem d_D_guessAt_81 : decode b_D_guessAt 81 = .ok (.ldiv, 1) := by decide +kernel
theorem d_D_guessAt_82 : decode b_D_guessAt 82 = .ok (.ldc2_w 102, 3) := by decide +kernel
theorem d_D_guessAt_85 : decode b_D_guessAt 85 = .ok (.invokestatic 104, 3) := by decide +kernel
theorem d_D_guessAt_88 : decode b_D_guessAt 88 = .ok (.lstore 11, 2) := by decide +kernel
theorem d_D_guessAt_90 : decode b_D_guessAt 90 = .ok (.lload 9, 2) := by decide +kernel
theorem d_D_guessAt_92 : decode b_D_guessAt 92 = .ok (.lload 11, 2) := by decide +kernel
theorem d_D_guessAt_94 : decode b_D_guessAt 94 = .ok (.lload_n 3, 1) := by decide +kernel
theorem d_D_guessAt_95 : decode b_D_guessAt 95 = .ok (.lmul, 1) := by decide +kernel
theorem d_D_guessAt_96 : decode b_D_guessAt 96 = .ok (.lsub, 1) := by decide +kernel
theorem d_D_guessAt_97 : decode b_D_guessAt 97 = .ok (.lstore 13, 2) := by decide +kernel
theorem d_D_guessAt_99 : decode b_D_guessAt 99 = .ok (.iconst 0, 1) := by decide +kernel
theorem d_D_guessAt_100 : decode b_D_guessAt 100 = .ok (.istore 15, 2) := by decide +kernel
theorem d_D_guessAt_102 : decode b_D_guessAt 102 = .ok (.iload 15, 2) := by decide +kernel
theorem d_D_guessAt_104 : decode b_D_guessAt 104 = .ok (.iconst 2, 1) := by decide +kernel
theorem d_D_guessAt_105 : decode b_D_guessAt 105 = .ok (.if_icmp .ge 47, 3) := by decide +kernel
theorem d_D_guessAt_108 : decode b_D_guessAt 108 = .ok (.lload 13, 2) := by decide +kernel
theorem d_D_guessAt_110 : decode b_D_guessAt 110 = .ok (.ldc2_w 102, 3) := by decide +kernel
theorem d_D_guessAt_113 : decode b_D_guessAt 113 = .ok (.lcmp, 1) := by decide +kernel
theorem d_D_guessAt_114 : decode b_D_guessAt 114 = .ok (.ifCond .gt 38, 3) := by decide +kernel
theorem d_D_guessAt_117 : decode b_D_guessAt 117 = .ok (.lload 11, 2) := by decide +kernel
theorem d_D_guessAt_119 : decode b_D_guessAt 119 = .ok (.lload 5, 2) := by decide +kernel
theorem d_D_guessAt_121 : decode b_D_guessAt 121 = .ok (.lmul, 1) := by decide +kernel
theorem d_D_guessAt_122 : decode b_D_guessAt 122 = .ok (.lload 13, 2) := by decide +kernel
theorem d_D_guessAt_124 : decode b_D_guessAt 124 = .ok (.bipush 31, 2) := by decide +kernel
theorem d_D_guessAt_126 : decode b_D_guessAt 126 = .ok (.lshl, 1) := by decide +kernel
theorem d_D_guessAt_127 : decode b_D_guessAt 127 = .ok (.lload 7, 2) := by decide +kernel
theorem d_D_guessAt_129 : decode b_D_guessAt 129 = .ok (.lor, 1) := by decide +kernel
theorem d_D_guessAt_130 : decode b_D_guessAt 130 = .ok (.lcmp, 1) := by decide +kernel
theorem d_D_guessAt_131 : decode b_D_guessAt 131 = .ok (.ifCond .le 21, 3) := by decide +kernel
theorem d_D_guessAt_134 : decode b_D_guessAt 134 = .ok (.lload 11, 2) := by decide +kernel
theorem d_D_guessAt_136 : decode b_D_guessAt 136 = .ok (.lconst 1, 1) := by decide +kernel
theorem d_D_guessAt_137 : decode b_D_guessAt 137 = .ok (.lsub, 1) := by decide +kernel
theorem d_D_guessAt_138 : decode b_D_guessAt 138 = .ok (.lstore 11, 2) := by decide +kernel
theorem d_D_guessAt_140 : decode b_D_guessAt 140 = .ok (.lload 13, 2) := by decide +kernel
theorem d_D_guessAt_142 : decode b_D_guessAt 142 = .ok (.lload_n 3, 1) := by decide +kernel
theorem d_D_guessAt_143 : decode b_D_guessAt 143 = .ok (.ladd, 1) := by decide +kernel
theorem d_D_guessAt_144 : decode b_D_guessAt 144 = .ok (.lstore 13, 2) := by decide +kernel
theorem d_D_guessAt_146 : decode b_D_guessAt 146 = .ok (.iinc 15 1, 3) := by decide +kernel
theorem d_D_guessAt_149 : decode b_D_guessAt 149 = .ok (.goto (-47), 3) := by decide +kernel
theorem d_D_guessAt_152 : decode b_D_guessAt 152 = .ok (.lload 11, 2) := by decide +kernel
theorem d_D_guessAt_154 : decode b_D_guessAt 154 = .ok (.lreturn, 1) := by decide +kernel
theorem d_D_takeAway_0 : decode b_D_takeAway 0 = .ok (.lconst 0, 1) := by decide +kernel
theorem d_D_takeAway_1 : decode b_D_takeAway 1 = .ok (.lstore 5, 2) := by decide +kernel
theorem d_D_takeAway_3 : decode b_D_takeAway 3 = .ok (.iconst 0, 1) := by decide +kernel
theorem d_D_takeAway_4 : decode b_D_takeAway 4 = .ok (.istore 7, 2) := by decide +kernel
theorem d_D_takeAway_6 : decode b_D_takeAway 6 = .ok (.iload 7, 2) := by decide +kernel
theorem d_D_takeAway_8 : decode b_D_takeAway 8 = .ok (.iload 4, 2) := by decide +kernel
theorem d_D_takeAway_10 : decode b_D_takeAway 10 = .ok (.if_icmp .ge 59, 3) := by decide +kernel
theorem d_D_takeAway_13 : decode b_D_takeAway 13 = .ok (.aload_n 0, 1) := by decide +kernel
theorem d_D_takeAway_14 : decode b_D_takeAway 14 = .ok (.getfield 23, 3) := by decide +kernel
theorem d_D_takeAway_17 : decode b_D_takeAway 17 = .ok (.iload_n 3, 1) := by decide +kernel
theorem d_D_takeAway_18 : decode b_D_takeAway 18 = .ok (.iload 7, 2) := by decide +kernel
theorem d_D_takeAway_20 : decode b_D_takeAway 20 = .ok (.iadd, 1) := by decide +kernel
theorem d_D_takeAway_21 : decode b_D_takeAway 21 = .ok (.iaload, 1) := by decide +kernel
theorem d_D_takeAway_22 : decode b_D_takeAway 22 = .ok (.i2l, 1) := by decide +kernel
theorem d_D_takeAway_23 : decode b_D_takeAway 23 = .ok (.lload_n 1, 1) := by decide +kernel
theorem d_D_takeAway_24 : decode b_D_takeAway 24 = .ok (.aload_n 0, 1) := by decide +kernel
theorem d_D_takeAway_25 : decode b_D_takeAway 25 = .ok (.getfield 27, 3) := by decide +kernel
theorem d_D_takeAway_28 : decode b_D_takeAway 28 = .ok (.iload 7, 2) := by decide +kernel
theorem d_D_takeAway_30 : decode b_D_takeAway 30 = .ok (.iaload, 1) := by decide +kernel
theorem d_D_takeAway_31 : decode b_D_takeAway 31 = .ok (.i2l, 1) := by decide +kernel
theorem d_D_takeAway_32 : decode b_D_takeAway 32 = .ok (.lmul, 1) := by decide +kernel
theorem d_D_takeAway_33 : decode b_D_takeAway 33 = .ok (.lsub, 1) := by decide +kernel
theorem d_D_takeAway_34 : decode b_D_takeAway 34 = .ok (.lload 5, 2) := by decide +kernel
theorem d_D_takeAway_36 : decode b_D_takeAway 36 = .ok (.lsub, 1) := by decide +kernel
theorem d_D_takeAway_37 : decode b_D_takeAway 37 = .ok (.lstore 8, 2) := by decide +kernel
theorem d_D_takeAway_39 : decode b_D_takeAway 39 = .ok (.aload_n 0, 1) := by decide +kernel
theorem d_D_takeAway_40 : decode b_D_takeAway 40 = .ok (.getfield 23, 3) := by decide +kernel
theorem d_D_takeAway_43 : decode b_D_takeAway 43 = .ok (.iload_n 3, 1) := by decide +kernel
theorem d_D_takeAway_44 : decode b_D_takeAway 44 = .ok (.iload 7, 2) := by decide +kernel
theorem d_D_takeAway_46 : decode b_D_takeAway 46 = .ok (.iadd, 1) := by decide +kernel
theorem d_D_takeAway_47 : decode b_D_takeAway 47 = .ok (.lload 8, 2) := by decide +kernel
theorem d_D_takeAway_49 : decode b_D_takeAway 49 = .ok (.ldc2_w 102, 3) := by decide +kernel
theorem d_D_takeAway_52 : decode b_D_takeAway 52 = .ok (.land, 1) := by decide +kernel
theorem d_D_takeAway_53 : decode b_D_takeAway 53 = .ok (.l2i, 1) := by decide +kernel
theorem d_D_takeAway_54 : decode b_D_takeAway 54 = .ok (.iastore, 1) := by decide +kernel
theorem d_D_takeAway_55 : decode b_D_takeAway 55 = .ok (.lload 8, 2) := by decide +kernel
theorem d_D_takeAway_57 : decode b_D_takeAway 57 = .ok (.bipush 31, 2) := by decide +kernel
theorem d_D_takeAway_59 : decode b_D_takeAway 59 = .ok (.lshr, 1) := by decide +kernel
theorem d_D_takeAway_60 : decode b_D_takeAway 60 = .ok (.lneg, 1) := by decide +kernel
theorem d_D_takeAway_61 : decode b_D_takeAway 61 = .ok (.lstore 5, 2) := by decide +kernel
theorem d_D_takeAway_63 : decode b_D_takeAway 63 = .ok (.iinc 7 1, 3) := by decide +kernel
theorem d_D_takeAway_66 : decode b_D_takeAway 66 = .ok (.goto (-60), 3) := by decide +kernel
theorem d_D_takeAway_69 : decode b_D_takeAway 69 = .ok (.aload_n 0, 1) := by decide +kernel
theorem d_D_takeAway_70 : decode b_D_takeAway 70 = .ok (.getfield 23, 3) := by decide +kernel
theorem d_D_takeAway_73 : decode b_D_takeAway 73 = .ok (.iload_n 3, 1) := by decide +kernel
theorem d_D_takeAway_74 : decode b_D_takeAway 74 = .ok (.iload 4, 2) := by decide +kernel
theorem d_D_takeAway_76 : decode b_D_takeAway 76 = .ok (.iadd, 1) := by decide +kernel
theorem d_D_takeAway_77 : decode b_D_takeAway 77 = .ok (.iaload, 1) := by decide +kernel
theorem d_D_takeAway_78 : decode b_D_takeAway 78 = .ok (.i2l, 1) := by decide +kernel
theorem d_D_takeAway_79 : decode b_D_takeAway 79 = .ok (.lload 5, 2) := by decide +kernel
theorem d_D_takeAway_81 : decode b_D_takeAway 81 = .ok (.lsub, 1) := by decide +kernel
theorem d_D_takeAway_82 : decode b_D_takeAway 82 = .ok (.lstore 7, 2) := by decide +kernel
theorem d_D_takeAway_84 : decode b_D_takeAway 84 = .ok (.aload_n 0, 1) := by decide +kernel
theorem d_D_takeAway_85 : decode b_D_takeAway 85 = .ok (.getfield 23, 3) := by decide +kernel
theorem d_D_takeAway_88 : decode b_D_takeAway 88 = .ok (.iload_n 3, 1) := by decide +kernel
theorem d_D_takeAway_89 : decode b_D_takeAway 89 = .ok (.iload 4, 2) := by decide +kernel
theorem d_D_takeAway_91 : decode b_D_takeAway 91 = .ok (.iadd, 1) := by decide +kernel
theorem d_D_takeAway_92 : decode b_D_takeAway 92 = .ok (.lload 7, 2) := by decide +kernel
theorem d_D_takeAway_94 : decode b_D_takeAway 94 = .ok (.ldc2_w 102, 3) := by decide +kernel
theorem d_D_takeAway_97 : decode b_D_takeAway 97 = .ok (.land, 1) := by decide +kernel
theorem d_D_takeAway_98 : decode b_D_takeAway 98 = .ok (.l2i, 1) := by decide +kernel
theorem d_D_takeAway_99 : decode b_D_takeAway 99 = .ok (.iastore, 1) := by decide +kernel
theorem d_D_takeAway_100 : decode b_D_takeAway 100 = .ok (.lload 7, 2) := by decide +kernel
theorem d_D_takeAway_102 : decode b_D_takeAway 102 = .ok (.lconst 0, 1) := by decide +kernel
theorem d_D_takeAway_103 : decode b_D_takeAway 103 = .ok (.lcmp, 1) := by decide +kernel
theorem d_D_takeAway_104 : decode b_D_takeAway 104 = .ok (.ifCond .ge 7, 3) := by decide +kernel
theorem d_D_takeAway_107 : decode b_D_takeAway 107 = .ok (.iconst 1, 1) := by decide +kernel
theorem d_D_takeAway_108 : decode b_D_takeAway 108 = .ok (.goto 4, 3) := by decide +kernel
theorem d_D_takeAway_111 : decode b_D_takeAway 111 = .ok (.iconst 0, 1) := by decide +kernel
theorem d_D_takeAway_112 : decode b_D_takeAway 112 = .ok (.ireturn, 1) := by decide +kernel
theorem d_D_giveBack_0 : decode b_D_giveBack 0 = .ok (.lconst 0, 1) := by decide +kernel
theorem d_D_giveBack_1 : decode b_D_giveBack 1 = .ok (.lstore_n 3, 1) := by decide +kernel
theorem d_D_giveBack_2 : decode b_D_giveBack 2 = .ok (.iconst 0, 1) := by decide +kernel
theorem d_D_giveBack_3 : decode b_D_giveBack 3 = .ok (.istore 5, 2) := by decide +kernel
theorem d_D_giveBack_5 : decode b_D_giveBack 5 = .ok (.iload 5, 2) := by decide +kernel
theorem d_D_giveBack_7 : decode b_D_giveBack 7 = .ok (.iload_n 2, 1) := by decide +kernel
theorem d_D_giveBack_8 : decode b_D_giveBack 8 = .ok (.if_icmp .ge 54, 3) := by decide +kernel
theorem d_D_giveBack_11 : decode b_D_giveBack 11 = .ok (.aload_n 0, 1) := by decide +kernel
theorem d_D_giveBack_12 : decode b_D_giveBack 12 = .ok (.getfield 23, 3) := by decide +kernel
theorem d_D_giveBack_15 : decode b_D_giveBack 15 = .ok (.iload_n 1, 1) := by decide +kernel
theorem d_D_giveBack_16 : decode b_D_giveBack 16 = .ok (.iload 5, 2) := by decide +kernel
theorem d_D_giveBack_18 : decode b_D_giveBack 18 = .ok (.iadd, 1) := by decide +kernel
theorem d_D_giveBack_19 : decode b_D_giveBack 19 = .ok (.iaload, 1) := by decide +kernel
theorem d_D_giveBack_20 : decode b_D_giveBack 20 = .ok (.i2l, 1) := by decide +kernel
theorem d_D_giveBack_21 : decode b_D_giveBack 21 = .ok (.aload_n 0, 1) := by decide +kernel
theorem d_D_giveBack_22 : decode b_D_giveBack 22 = .ok (.getfield 27, 3) := by decide +kernel
theorem d_D_giveBack_25 : decode b_D_giveBack 25 = .ok (.iload 5, 2) := by decide +kernel
theorem d_D_giveBack_27 : decode b_D_giveBack 27 = .ok (.iaload, 1) := by decide +kernel
theorem d_D_giveBack_28 : decode b_D_giveBack 28 = .ok (.i2l, 1) := by decide +kernel
theorem d_D_giveBack_29 : decode b_D_giveBack 29 = .ok (.ladd, 1) := by decide +kernel
theorem d_D_giveBack_30 : decode b_D_giveBack 30 = .ok (.lload_n 3, 1) := by decide +kernel
theorem d_D_giveBack_31 : decode b_D_giveBack 31 = .ok (.ladd, 1) := by decide +kernel
theorem d_D_giveBack_32 : decode b_D_giveBack 32 = .ok (.lstore 6, 2) := by decide +kernel
theorem d_D_giveBack_34 : decode b_D_giveBack 34 = .ok (.aload_n 0, 1) := by decide +kernel
theorem d_D_giveBack_35 : decode b_D_giveBack 35 = .ok (.getfield 23, 3) := by decide +kernel
theorem d_D_giveBack_38 : decode b_D_giveBack 38 = .ok (.iload_n 1, 1) := by decide +kernel
theorem d_D_giveBack_39 : decode b_D_giveBack 39 = .ok (.iload 5, 2) := by decide +kernel
theorem d_D_giveBack_41 : decode b_D_giveBack 41 = .ok (.iadd, 1) := by decide +kernel
theorem d_D_giveBack_42 : decode b_D_giveBack 42 = .ok (.lload 6, 2) := by decide +kernel
theorem d_D_giveBack_44 : decode b_D_giveBack 44 = .ok (.ldc2_w 102, 3) := by decide +kernel
theorem d_D_giveBack_47 : decode b_D_giveBack 47 = .ok (.land, 1) := by decide +kernel
theorem d_D_giveBack_48 : decode b_D_giveBack 48 = .ok (.l2i, 1) := by decide +kernel
theorem d_D_giveBack_49 : decode b_D_giveBack 49 = .ok (.iastore, 1) := by decide +kernel
theorem d_D_giveBack_50 : decode b_D_giveBack 50 = .ok (.lload 6, 2) := by decide +kernel
theorem d_D_giveBack_52 : decode b_D_giveBack 52 = .ok (.bipush 31, 2) := by decide +kernel
theorem d_D_giveBack_54 : decode b_D_giveBack 54 = .ok (.lushr, 1) := by decide +kernel
theorem d_D_giveBack_55 : decode b_D_giveBack 55 = .ok (.lstore_n 3, 1) := by decide +kernel
theorem d_D_giveBack_56 : decode b_D_giveBack 56 = .ok (.iinc 5 1, 3) := by decide +kernel
theorem d_D_giveBack_59 : decode b_D_giveBack 59 = .ok (.goto (-54), 3) := by decide +kernel
theorem d_D_giveBack_62 : decode b_D_giveBack 62 = .ok (.aload_n 0, 1) := by decide +kernel
theorem d_D_giveBack_63 : decode b_D_giveBack 63 = .ok (.getfield 23, 3) := by decide +kernel
theorem d_D_giveBack_66 : decode b_D_giveBack 66 = .ok (.iload_n 1, 1) := by decide +kernel
theorem d_D_giveBack_67 : decode b_D_giveBack 67 = .ok (.iload_n 2, 1) := by decide +kernel
theorem d_D_giveBack_68 : decode b_D_giveBack 68 = .ok (.iadd, 1) := by decide +kernel
theorem d_D_giveBack_69 : decode b_D_giveBack 69 = .ok (.aload_n 0, 1) := by decide +kernel
theorem d_D_giveBack_70 : decode b_D_giveBack 70 = .ok (.getfield 23, 3) := by decide +kernel
theorem d_D_giveBack_73 : decode b_D_giveBack 73 = .ok (.iload_n 1, 1) := by decide +kernel
theorem d_D_giveBack_74 : decode b_D_giveBack 74 = .ok (.iload_n 2, 1) := by decide +kernel
theorem d_D_giveBack_75 : decode b_D_giveBack 75 = .ok (.iadd, 1) := by decide +kernel
theorem d_D_giveBack_76 : decode b_D_giveBack 76 = .ok (.iaload, 1) := by decide +kernel
theorem d_D_giveBack_77 : decode b_D_giveBack 77 = .ok (.i2l, 1) := by decide +kernel
theorem d_D_giveBack_78 : decode b_D_giveBack 78 = .ok (.lload_n 3, 1) := by decide +kernel
theorem d_D_giveBack_79 : decode b_D_giveBack 79 = .ok (.ladd, 1) := by decide +kernel
theorem d_D_giveBack_80 : decode b_D_giveBack 80 = .ok (.ldc2_w 102, 3) := by decide +kernel
theorem d_D_giveBack_83 : decode b_D_giveBack 83 = .ok (.land, 1) := by decide +kernel
theorem d_D_giveBack_84 : decode b_D_giveBack 84 = .ok (.l2i, 1) := by decide +kernel
theorem d_D_giveBack_85 : decode b_D_giveBack 85 = .ok (.iastore, 1) := by decide +kernel
theorem d_D_giveBack_86 : decode b_D_giveBack 86 = .ok (.return_, 1) := by decide +kernel
theorem d_D_lowerRest_0 : decode b_D_lowerRest 0 = .ok (.iconst 0, 1) := by decide +kernel
theorem d_D_lowerRest_1 : decode b_D_lowerRest 1 = .ok (.istore_n 3, 1) := by decide +kernel
theorem d_D_lowerRest_2 : decode b_D_lowerRest 2 = .ok (.iload_n 3, 1) := by decide +kernel
theorem d_D_lowerRest_3 : decode b_D_lowerRest 3 = .ok (.iload_n 1, 1) := by decide +kernel
theorem d_D_lowerRest_4 : decode b_D_lowerRest 4 = .ok (.if_icmp .ge 49, 3) := by decide +kernel
theorem d_D_lowerRest_7 : decode b_D_lowerRest 7 = .ok (.aload_n 0, 1) := by decide +kernel
theorem d_D_lowerRest_8 : decode b_D_lowerRest 8 = .ok (.getfield 23, 3) := by decide +kernel
theorem d_D_lowerRest_11 : decode b_D_lowerRest 11 = .ok (.iload_n 3, 1) := by decide +kernel
theorem d_D_lowerRest_12 : decode b_D_lowerRest 12 = .ok (.iconst 1, 1) := by decide +kernel
theorem d_D_lowerRest_13 : decode b_D_lowerRest 13 = .ok (.iadd, 1) := by decide +kernel
theorem d_D_lowerRest_14 : decode b_D_lowerRest 14 = .ok (.iaload, 1) := by decide +kernel
theorem d_D_lowerRest_15 : decode b_D_lowerRest 15 = .ok (.i2l, 1) := by decide +kernel
theorem d_D_lowerRest_16 : decode b_D_lowerRest 16 = .ok (.bipush 31, 2) := by decide +kernel
theorem d_D_lowerRest_18 : decode b_D_lowerRest 18 = .ok (.lshl, 1) := by decide +kernel
theorem d_D_lowerRest_19 : decode b_D_lowerRest 19 = .ok (.aload_n 0, 1) := by decide +kernel
theorem d_D_lowerRest_20 : decode b_D_lowerRest 20 = .ok (.getfield 23, 3) := by decide +kernel
theorem d_D_lowerRest_23 : decode b_D_lowerRest 23 = .ok (.iload_n 3, 1) := by decide +kernel
theorem d_D_lowerRest_24 : decode b_D_lowerRest 24 = .ok (.iaload, 1) := by decide +kernel
theorem d_D_lowerRest_25 : decode b_D_lowerRest 25 = .ok (.i2l, 1) := by decide +kernel
theorem d_D_lowerRest_26 : decode b_D_lowerRest 26 = .ok (.lor, 1) := by decide +kernel
theorem d_D_lowerRest_27 : decode b_D_lowerRest 27 = .ok (.lstore 4, 2) := by decide +kernel
theorem d_D_lowerRest_29 : decode b_D_lowerRest 29 = .ok (.aload_n 0, 1) := by decide +kernel
theorem d_D_lowerRest_30 : decode b_D_lowerRest 30 = .ok (.getfield 20, 3) := by decide +kernel
theorem d_D_lowerRest_33 : decode b_D_lowerRest 33 = .ok (.getfield 69, 3) := by decide +kernel
theorem d_D_lowerRest_36 : decode b_D_lowerRest 36 = .ok (.iload_n 3, 1) := by decide +kernel
theorem d_D_lowerRest_37 : decode b_D_lowerRest 37 = .ok (.lload 4, 2) := by decide +kernel
theorem d_D_lowerRest_39 : decode b_D_lowerRest 39 = .ok (.iload_n 2, 1) := by decide +kernel
theorem d_D_lowerRest_40 : decode b_D_lowerRest 40 = .ok (.lushr, 1) := by decide +kernel
theorem d_D_lowerRest_41 : decode b_D_lowerRest 41 = .ok (.ldc2_w 102, 3) := by decide +kernel
theorem d_D_lowerRest_44 : decode b_D_lowerRest 44 = .ok (.land, 1) := by decide +kernel
theorem d_D_lowerRest_45 : decode b_D_lowerRest 45 = .ok (.l2i, 1) := by decide +kernel
theorem d_D_lowerRest_46 : decode b_D_lowerRest 46 = .ok (.iastore, 1) := by decide +kernel
theorem d_D_lowerRest_47 : decode b_D_lowerRest 47 = .ok (.iinc 3 1, 3) := by decide +kernel
theorem d_D_lowerRest_50 : decode b_D_lowerRest 50 = .ok (.goto (-48), 3) := by decide +kernel
theorem d_D_lowerRest_53 : decode b_D_lowerRest 53 = .ok (.aload_n 0, 1) := by decide +kernel
theorem d_D_lowerRest_54 : decode b_D_lowerRest 54 = .ok (.getfield 20, 3) := by decide +kernel
theorem d_D_lowerRest_57 : decode b_D_lowerRest 57 = .ok (.iconst 0, 1) := by decide +kernel
theorem d_D_lowerRest_58 : decode b_D_lowerRest 58 = .ok (.putfield 34, 3) := by decide +kernel
theorem d_D_lowerRest_61 : decode b_D_lowerRest 61 = .ok (.aload_n 0, 1) := by decide +kernel
theorem d_D_lowerRest_62 : decode b_D_lowerRest 62 = .ok (.getfield 20, 3) := by decide +kernel
theorem d_D_lowerRest_65 : decode b_D_lowerRest 65 = .ok (.iload_n 1, 1) := by decide +kernel
theorem d_D_lowerRest_66 : decode b_D_lowerRest 66 = .ok (.invokevirtual 84, 3) := by decide +kernel
theorem d_D_lowerRest_69 : decode b_D_lowerRest 69 = .ok (.return_, 1) := by decide +kernel
theorem d_T_init_0 : decode b_T_init 0 = .ok (.aload_n 0, 1) := by decide +kernel
theorem d_T_init_1 : decode b_T_init 1 = .ok (.invokespecial 3, 3) := by decide +kernel
theorem d_T_init_4 : decode b_T_init 4 = .ok (.aload_n 0, 1) := by decide +kernel
theorem d_T_init_5 : decode b_T_init 5 = .ok (.sipush 2100, 3) := by decide +kernel
theorem d_T_init_8 : decode b_T_init 8 = .ok (.newarray .byte, 2) := by decide +kernel
theorem d_T_init_10 : decode b_T_init 10 = .ok (.putfield 9, 3) := by decide +kernel
theorem d_T_init_13 : decode b_T_init 13 = .ok (.return_, 1) := by decide +kernel
theorem d_T_countIn_0 : decode b_T_countIn 0 = .ok (.iconst 0, 1) := by decide +kernel
theorem d_T_countIn_1 : decode b_T_countIn 1 = .ok (.istore_n 2, 1) := by decide +kernel
theorem d_T_countIn_2 : decode b_T_countIn 2 = .ok (.iload_n 2, 1) := by decide +kernel
theorem d_T_countIn_3 : decode b_T_countIn 3 = .ok (.bipush 8, 2) := by decide +kernel
theorem d_T_countIn_5 : decode b_T_countIn 5 = .ok (.if_icmp .ge 35, 3) := by decide +kernel
theorem d_T_countIn_8 : decode b_T_countIn 8 = .ok (.lload_n 0, 1) := by decide +kernel
theorem d_T_countIn_9 : decode b_T_countIn 9 = .ok (.iload_n 2, 1) := by decide +kernel
theorem d_T_countIn_10 : decode b_T_countIn 10 = .ok (.invokestatic 15, 3) := by decide +kernel
theorem d_T_countIn_13 : decode b_T_countIn 13 = .ok (.istore_n 3, 1) := by decide +kernel
theorem d_T_countIn_14 : decode b_T_countIn 14 = .ok (.iload_n 3, 1) := by decide +kernel
theorem d_T_countIn_15 : decode b_T_countIn 15 = .ok (.ifCond .ne 5, 3) := by decide +kernel
theorem d_T_countIn_18 : decode b_T_countIn 18 = .ok (.iload_n 2, 1) := by decide +kernel
theorem d_T_countIn_19 : decode b_T_countIn 19 = .ok (.ireturn, 1) := by decide +kernel
theorem d_T_countIn_20 : decode b_T_countIn 20 = .ok (.iload_n 3, 1) := by decide +kernel
theorem d_T_countIn_21 : decode b_T_countIn 21 = .ok (.bipush 32, 2) := by decide +kernel
theorem d_T_countIn_23 : decode b_T_countIn 23 = .ok (.if_icmp .lt 9, 3) := by decide +kernel
theorem d_T_countIn_26 : decode b_T_countIn 26 = .ok (.iload_n 3, 1) := by decide +kernel
theorem d_T_countIn_27 : decode b_T_countIn 27 = .ok (.bipush 126, 2) := by decide +kernel
theorem d_T_countIn_29 : decode b_T_countIn 29 = .ok (.if_icmp .le 5, 3) := by decide +kernel
theorem d_T_countIn_32 : decode b_T_countIn 32 = .ok (.iconst 0, 1) := by decide +kernel
theorem d_T_countIn_33 : decode b_T_countIn 33 = .ok (.ireturn, 1) := by decide +kernel
theorem d_T_countIn_34 : decode b_T_countIn 34 = .ok (.iinc 2 1, 3) := by decide +kernel
theorem d_T_countIn_37 : decode b_T_countIn 37 = .ok (.goto (-35), 3) := by decide +kernel
theorem d_T_countIn_40 : decode b_T_countIn 40 = .ok (.bipush 8, 2) := by decide +kernel
theorem d_T_countIn_42 : decode b_T_countIn 42 = .ok (.ireturn, 1) := by decide +kernel
theorem d_T_octetOf_0 : decode b_T_octetOf 0 = .ok (.lload_n 0, 1) := by decide +kernel
theorem d_T_octetOf_1 : decode b_T_octetOf 1 = .ok (.bipush 8, 2) := by decide +kernel
theorem d_T_octetOf_3 : decode b_T_octetOf 3 = .ok (.iload_n 2, 1) := by decide +kernel
theorem d_T_octetOf_4 : decode b_T_octetOf 4 = .ok (.imul, 1) := by decide +kernel
theorem d_T_octetOf_5 : decode b_T_octetOf 5 = .ok (.lushr, 1) := by decide +kernel
theorem d_T_octetOf_6 : decode b_T_octetOf 6 = .ok (.l2i, 1) := by decide +kernel
theorem d_T_octetOf_7 : decode b_T_octetOf 7 = .ok (.sipush 255, 3) := by decide +kernel
theorem d_T_octetOf_10 : decode b_T_octetOf 10 = .ok (.iand, 1) := by decide +kernel
theorem d_T_octetOf_11 : decode b_T_octetOf 11 = .ok (.ireturn, 1) := by decide +kernel
theorem d_T_append_0 : decode b_T_append 0 = .ok (.iconst 0, 1) := by decide +kernel
theorem d_T_append_1 : decode b_T_append 1 = .ok (.istore 4, 2) := by decide +kernel
theorem d_T_append_3 : decode b_T_append 3 = .ok (.iload 4, 2) := by decide +kernel
theorem d_T_append_5 : decode b_T_append 5 = .ok (.iload_n 3, 1) := by decide +kernel
theorem d_T_append_6 : decode b_T_append 6 = .ok (.if_icmp .ge 19, 3) := by decide +kernel
theorem d_T_append_9 : decode b_T_append 9 = .ok (.aload_n 0, 1) := by decide +kernel
theorem d_T_append_10 : decode b_T_append 10 = .ok (.lload_n 1, 1) := by decide +kernel
theorem d_T_append_11 : decode b_T_append 11 = .ok (.iload 4, 2) := by decide +kernel
theorem d_T_append_13 : decode b_T_append 13 = .ok (.invokestatic 15, 3) := by decide +kernel
theorem d_T_append_16 : decode b_T_append 16 = .ok (.invokevirtual 19, 3) := by decide +kernel
theorem d_T_append_19 : decode b_T_append 19 = .ok (.iinc 4 1, 3) := by decide +kernel
theorem d_T_append_22 : decode b_T_append 22 = .ok (.goto (-19), 3) := by decide +kernel
theorem d_T_append_25 : decode b_T_append 25 = .ok (.return_, 1) := by decide +kernel
theorem d_T_put_0 : decode b_T_put 0 = .ok (.aload_n 0, 1) := by decide +kernel
theorem d_T_put_1 : decode b_T_put 1 = .ok (.getfield 23, 3) := by decide +kernel
theorem d_T_put_4 : decode b_T_put 4 = .ok (.sipush 2100, 3) := by decide +kernel
theorem d_T_put_7 : decode b_T_put 7 = .ok (.if_icmp .ge 24, 3) := by decide +kernel
theorem d_T_put_10 : decode b_T_put 10 = .ok (.aload_n 0, 1) := by decide +kernel
theorem d_T_put_11 : decode b_T_put 11 = .ok (.getfield 9, 3) := by decide +kernel
theorem d_T_put_14 : decode b_T_put 14 = .ok (.aload_n 0, 1) := by decide +kernel
theorem d_T_put_15 : decode b_T_put 15 = .ok (.getfield 23, 3) := by decide +kernel
theorem d_T_put_18 : decode b_T_put 18 = .ok (.iload_n 1, 1) := by decide +kernel
theorem d_T_put_19 : decode b_T_put 19 = .ok (.i2b, 1) := by decide +kernel
theorem d_T_put_20 : decode b_T_put 20 = .ok (.bastore, 1) := by decide +kernel
theorem d_T_put_21 : decode b_T_put 21 = .ok (.aload_n 0, 1) := by decide +kernel
theorem d_T_put_22 : decode b_T_put 22 = .ok (.dup, 1) := by decide +kernel
theorem d_T_put_23 : decode b_T_put 23 = .ok (.getfield 23, 3) := by decide +kernel
theorem d_T_put_26 : decode b_T_put 26 = .ok (.iconst 1, 1) := by decide +kernel
theorem d_T_put_27 : decode b_T_put 27 = .ok (.iadd, 1) := by decide +kernel
theorem d_T_put_28 : decode b_T_put 28 = .ok (.putfield 23, 3) := by decide +kernel
theorem d_T_put_31 : decode b_T_put 31 = .ok (.return_, 1) := by decide +kernel
theorem d_T_haveMinus_0 : decode b_T_haveMinus 0 = .ok (.aload_n 0, 1) := by decide +kernel
theorem d_T_haveMinus_1 : decode b_T_haveMinus 1 = .ok (.getfield 23, 3) := by decide +kernel
theorem d_T_haveMinus_4 : decode b_T_haveMinus 4 = .ok (.ifCond .le 18, 3) := by decide +kernel
theorem d_T_haveMinus_7 : decode b_T_haveMinus 7 = .ok (.aload_n 0, 1) := by decide +kernel
theorem d_T_haveMinus_8 : decode b_T_haveMinus 8 = .ok (.getfield 9, 3) := by decide +kernel
theorem d_T_haveMinus_11 : decode b_T_haveMinus 11 = .ok (.iconst 0, 1) := by decide +kernel
theorem d_T_haveMinus_12 : decode b_T_haveMinus 12 = .ok (.baload, 1) := by decide +kernel
theorem d_T_haveMinus_13 : decode b_T_haveMinus 13 = .ok (.bipush 45, 2) := by decide +kernel
theorem d_T_haveMinus_15 : decode b_T_haveMinus 15 = .ok (.if_icmp .ne 7, 3) := by decide +kernel
theorem d_T_haveMinus_18 : decode b_T_haveMinus 18 = .ok (.iconst 1, 1) := by decide +kernel
theorem d_T_haveMinus_19 : decode b_T_haveMinus 19 = .ok (.goto 4, 3) := by decide +kernel
theorem d_T_haveMinus_22 : decode b_T_haveMinus 22 = .ok (.iconst 0, 1) := by decide +kernel
theorem d_T_haveMinus_23 : decode b_T_haveMinus 23 = .ok (.ireturn, 1) := by decide +kernel
theorem d_T_areNumber_0 : decode b_T_areNumber 0 = .ok (.aload_n 0, 1) := by decide +kernel
theorem d_T_areNumber_1 : decode b_T_areNumber 1 = .ok (.invokevirtual 27, 3) := by decide +kernel
theorem d_T_areNumber_4 : decode b_T_areNumber 4 = .ok (.ifCond .eq 7, 3) := by decide +kernel
theorem d_T_areNumber_7 : decode b_T_areNumber 7 = .ok (.iconst 1, 1) := by decide +kernel
theorem d_T_areNumber_8 : decode b_T_areNumber 8 = .ok (.goto 4, 3) := by decide +kernel
theorem d_T_areNumber_11 : decode b_T_areNumber 11 = .ok (.iconst 0, 1) := by decide +kernel
