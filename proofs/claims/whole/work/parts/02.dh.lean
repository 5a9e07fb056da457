theorem d_M_line_1 : decode b_M_line 1 = .ok (.iconst 0, 1) := by decide +kernel
theorem d_M_line_2 : decode b_M_line 2 = .ok (.putfield 49, 3) := by decide +kernel
theorem d_M_line_5 : decode b_M_line 5 = .ok (.iconst 0, 1) := by decide +kernel
theorem d_M_line_6 : decode b_M_line 6 = .ok (.istore_n 3, 1) := by decide +kernel
theorem d_M_line_7 : decode b_M_line 7 = .ok (.iconst 0, 1) := by decide +kernel
theorem d_M_line_8 : decode b_M_line 8 = .ok (.istore 4, 2) := by decide +kernel
theorem d_M_line_10 : decode b_M_line 10 = .ok (.iload 4, 2) := by decide +kernel
theorem d_M_line_12 : decode b_M_line 12 = .ok (.bipush 8, 2) := by decide +kernel
theorem d_M_line_14 : decode b_M_line 14 = .ok (.if_icmp .ge 69, 3) := by decide +kernel
theorem d_M_line_17 : decode b_M_line 17 = .ok (.iload_n 3, 1) := by decide +kernel
theorem d_M_line_18 : decode b_M_line 18 = .ok (.iload 4, 2) := by decide +kernel
theorem d_M_line_20 : decode b_M_line 20 = .ok (.if_icmp .ne 63, 3) := by decide +kernel
theorem d_M_line_23 : decode b_M_line 23 = .ok (.lload_n 1, 1) := by decide +kernel
theorem d_M_line_24 : decode b_M_line 24 = .ok (.bipush 8, 2) := by decide +kernel
theorem d_M_line_26 : decode b_M_line 26 = .ok (.iload 4, 2) := by decide +kernel
theorem d_M_line_28 : decode b_M_line 28 = .ok (.imul, 1) := by decide +kernel
theorem d_M_line_29 : decode b_M_line 29 = .ok (.lushr, 1) := by decide +kernel
theorem d_M_line_30 : decode b_M_line 30 = .ok (.ldc2_w 95, 3) := by decide +kernel
theorem d_M_line_33 : decode b_M_line 33 = .ok (.land, 1) := by decide +kernel
theorem d_M_line_34 : decode b_M_line 34 = .ok (.l2i, 1) := by decide +kernel
theorem d_M_line_35 : decode b_M_line 35 = .ok (.istore 5, 2) := by decide +kernel
theorem d_M_line_37 : decode b_M_line 37 = .ok (.aload_n 0, 1) := by decide +kernel
theorem d_M_line_38 : decode b_M_line 38 = .ok (.iload 5, 2) := by decide +kernel
theorem d_M_line_40 : decode b_M_line 40 = .ok (.ifCond .eq 19, 3) := by decide +kernel
theorem d_M_line_43 : decode b_M_line 43 = .ok (.iload 5, 2) := by decide +kernel
theorem d_M_line_45 : decode b_M_line 45 = .ok (.bipush 32, 2) := by decide +kernel
theorem d_M_line_47 : decode b_M_line 47 = .ok (.bipush 126, 2) := by decide +kernel
theorem d_M_line_49 : decode b_M_line 49 = .ok (.invokestatic 68, 3) := by decide +kernel
theorem d_M_line_52 : decode b_M_line 52 = .ok (.ifCond .ne 7, 3) := by decide +kernel
theorem d_M_line_55 : decode b_M_line 55 = .ok (.iconst 1, 1) := by decide +kernel
theorem d_M_line_56 : decode b_M_line 56 = .ok (.goto 4, 3) := by decide +kernel
theorem d_M_line_59 : decode b_M_line 59 = .ok (.iconst 0, 1) := by decide +kernel
theorem d_M_line_60 : decode b_M_line 60 = .ok (.iconst 1, 1) := by decide +kernel
theorem d_M_line_61 : decode b_M_line 61 = .ok (.invokevirtual 79, 3) := by decide +kernel
theorem d_M_line_64 : decode b_M_line 64 = .ok (.ifCond .eq 5, 3) := by decide +kernel
theorem d_M_line_67 : decode b_M_line 67 = .ok (.iconst 0, 1) := by decide +kernel
theorem d_M_line_68 : decode b_M_line 68 = .ok (.ireturn, 1) := by decide +kernel
theorem d_M_line_69 : decode b_M_line 69 = .ok (.iload 5, 2) := by decide +kernel
theorem d_M_line_71 : decode b_M_line 71 = .ok (.ifCond .eq 6, 3) := by decide +kernel
theorem d_M_line_74 : decode b_M_line 74 = .ok (.iinc 3 1, 3) := by decide +kernel
theorem d_M_line_77 : decode b_M_line 77 = .ok (.iinc 4 1, 3) := by decide +kernel
theorem d_M_line_80 : decode b_M_line 80 = .ok (.goto (-70), 3) := by decide +kernel
theorem d_M_line_83 : decode b_M_line 83 = .ok (.aload_n 0, 1) := by decide +kernel
theorem d_M_line_84 : decode b_M_line 84 = .ok (.iload_n 3, 1) := by decide +kernel
theorem d_M_line_85 : decode b_M_line 85 = .ok (.ifCond .ne 7, 3) := by decide +kernel
theorem d_M_line_88 : decode b_M_line 88 = .ok (.iconst 1, 1) := by decide +kernel
theorem d_M_line_89 : decode b_M_line 89 = .ok (.goto 4, 3) := by decide +kernel
theorem d_M_line_92 : decode b_M_line 92 = .ok (.iconst 0, 1) := by decide +kernel
theorem d_M_line_93 : decode b_M_line 93 = .ok (.iconst 1, 1) := by decide +kernel
theorem d_M_line_94 : decode b_M_line 94 = .ok (.invokevirtual 79, 3) := by decide +kernel
theorem d_M_line_97 : decode b_M_line 97 = .ok (.ifCond .ne 28, 3) := by decide +kernel
theorem d_M_line_100 : decode b_M_line 100 = .ok (.aload_n 0, 1) := by decide +kernel
theorem d_M_line_101 : decode b_M_line 101 = .ok (.aload_n 0, 1) := by decide +kernel
theorem d_M_line_102 : decode b_M_line 102 = .ok (.getfield 97, 3) := by decide +kernel
theorem d_M_line_105 : decode b_M_line 105 = .ok (.iload_n 3, 1) := by decide +kernel
theorem d_M_line_106 : decode b_M_line 106 = .ok (.iadd, 1) := by decide +kernel
theorem d_M_line_107 : decode b_M_line 107 = .ok (.sipush 2100, 3) := by decide +kernel
theorem d_M_line_110 : decode b_M_line 110 = .ok (.if_icmp .le 7, 3) := by decide +kernel
theorem d_M_line_113 : decode b_M_line 113 = .ok (.iconst 1, 1) := by decide +kernel
theorem d_M_line_114 : decode b_M_line 114 = .ok (.goto 4, 3) := by decide +kernel
theorem d_M_line_117 : decode b_M_line 117 = .ok (.iconst 0, 1) := by decide +kernel
theorem d_M_line_118 : decode b_M_line 118 = .ok (.iconst 2, 1) := by decide +kernel
theorem d_M_line_119 : decode b_M_line 119 = .ok (.invokevirtual 79, 3) := by decide +kernel
theorem d_M_line_122 : decode b_M_line 122 = .ok (.ifCond .eq 5, 3) := by decide +kernel
theorem d_M_line_125 : decode b_M_line 125 = .ok (.iconst 0, 1) := by decide +kernel
theorem d_M_line_126 : decode b_M_line 126 = .ok (.ireturn, 1) := by decide +kernel
theorem d_M_line_127 : decode b_M_line 127 = .ok (.iconst 0, 1) := by decide +kernel
theorem d_M_line_128 : decode b_M_line 128 = .ok (.istore 4, 2) := by decide +kernel
theorem d_M_line_130 : decode b_M_line 130 = .ok (.iload 4, 2) := by decide +kernel
theorem d_M_line_132 : decode b_M_line 132 = .ok (.iload_n 3, 1) := by decide +kernel
theorem d_M_line_133 : decode b_M_line 133 = .ok (.if_icmp .ge 33, 3) := by decide +kernel
theorem d_M_line_136 : decode b_M_line 136 = .ok (.aload_n 0, 1) := by decide +kernel
theorem d_M_line_137 : decode b_M_line 137 = .ok (.getfield 19, 3) := by decide +kernel
theorem d_M_line_140 : decode b_M_line 140 = .ok (.aload_n 0, 1) := by decide +kernel
theorem d_M_line_141 : decode b_M_line 141 = .ok (.getfield 97, 3) := by decide +kernel
theorem d_M_line_144 : decode b_M_line 144 = .ok (.iload 4, 2) := by decide +kernel
theorem d_M_line_146 : decode b_M_line 146 = .ok (.iadd, 1) := by decide +kernel
theorem d_M_line_147 : decode b_M_line 147 = .ok (.lload_n 1, 1) := by decide +kernel
theorem d_M_line_148 : decode b_M_line 148 = .ok (.bipush 8, 2) := by decide +kernel
theorem d_M_line_150 : decode b_M_line 150 = .ok (.iload 4, 2) := by decide +kernel
theorem d_M_line_152 : decode b_M_line 152 = .ok (.imul, 1) := by decide +kernel
theorem d_M_line_153 : decode b_M_line 153 = .ok (.lushr, 1) := by decide +kernel
theorem d_M_line_154 : decode b_M_line 154 = .ok (.ldc2_w 95, 3) := by decide +kernel
theorem d_M_line_157 : decode b_M_line 157 = .ok (.land, 1) := by decide +kernel
theorem d_M_line_158 : decode b_M_line 158 = .ok (.l2i, 1) := by decide +kernel
theorem d_M_line_159 : decode b_M_line 159 = .ok (.iastore, 1) := by decide +kernel
theorem d_M_line_160 : decode b_M_line 160 = .ok (.iinc 4 1, 3) := by decide +kernel
theorem d_M_line_163 : decode b_M_line 163 = .ok (.goto (-33), 3) := by decide +kernel
theorem d_M_line_166 : decode b_M_line 166 = .ok (.aload_n 0, 1) := by decide +kernel
theorem d_M_line_167 : decode b_M_line 167 = .ok (.dup, 1) := by decide +kernel
theorem d_M_line_168 : decode b_M_line 168 = .ok (.getfield 97, 3) := by decide +kernel
theorem d_M_line_171 : decode b_M_line 171 = .ok (.iload_n 3, 1) := by decide +kernel
theorem d_M_line_172 : decode b_M_line 172 = .ok (.iadd, 1) := by decide +kernel
theorem d_M_line_173 : decode b_M_line 173 = .ok (.putfield 97, 3) := by decide +kernel
theorem d_M_line_176 : decode b_M_line 176 = .ok (.aload_n 0, 1) := by decide +kernel
theorem d_M_line_177 : decode b_M_line 177 = .ok (.getfield 97, 3) := by decide +kernel
theorem d_M_line_180 : decode b_M_line 180 = .ok (.ireturn, 1) := by decide +kernel
theorem d_M_digit_0 : decode b_M_digit 0 = .ok (.iload_n 0, 1) := by decide +kernel
theorem d_M_digit_1 : decode b_M_digit 1 = .ok (.bipush 48, 2) := by decide +kernel
theorem d_M_digit_3 : decode b_M_digit 3 = .ok (.bipush 57, 2) := by decide +kernel
theorem d_M_digit_5 : decode b_M_digit 5 = .ok (.invokestatic 68, 3) := by decide +kernel
theorem d_M_digit_8 : decode b_M_digit 8 = .ok (.ifCond .eq 10, 3) := by decide +kernel
theorem d_M_digit_11 : decode b_M_digit 11 = .ok (.iload_n 0, 1) := by decide +kernel
theorem d_M_digit_12 : decode b_M_digit 12 = .ok (.bipush 48, 2) := by decide +kernel
theorem d_M_digit_14 : decode b_M_digit 14 = .ok (.isub, 1) := by decide +kernel
theorem d_M_digit_15 : decode b_M_digit 15 = .ok (.goto 47, 3) := by decide +kernel
theorem d_M_digit_18 : decode b_M_digit 18 = .ok (.iload_n 0, 1) := by decide +kernel
theorem d_M_digit_19 : decode b_M_digit 19 = .ok (.bipush 97, 2) := by decide +kernel
theorem d_M_digit_21 : decode b_M_digit 21 = .ok (.bipush 122, 2) := by decide +kernel
theorem d_M_digit_23 : decode b_M_digit 23 = .ok (.invokestatic 68, 3) := by decide +kernel
theorem d_M_digit_26 : decode b_M_digit 26 = .ok (.ifCond .eq 13, 3) := by decide +kernel
theorem d_M_digit_29 : decode b_M_digit 29 = .ok (.iload_n 0, 1) := by decide +kernel
theorem d_M_digit_30 : decode b_M_digit 30 = .ok (.bipush 97, 2) := by decide +kernel
theorem d_M_digit_32 : decode b_M_digit 32 = .ok (.isub, 1) := by decide +kernel
theorem d_M_digit_33 : decode b_M_digit 33 = .ok (.bipush 10, 2) := by decide +kernel
theorem d_M_digit_35 : decode b_M_digit 35 = .ok (.iadd, 1) := by decide +kernel
theorem d_M_digit_36 : decode b_M_digit 36 = .ok (.goto 26, 3) := by decide +kernel
theorem d_M_digit_39 : decode b_M_digit 39 = .ok (.iload_n 0, 1) := by decide +kernel
theorem d_M_digit_40 : decode b_M_digit 40 = .ok (.bipush 65, 2) := by decide +kernel
theorem d_M_digit_42 : decode b_M_digit 42 = .ok (.bipush 90, 2) := by decide +kernel
theorem d_M_digit_44 : decode b_M_digit 44 = .ok (.invokestatic 68, 3) := by decide +kernel
theorem d_M_digit_47 : decode b_M_digit 47 = .ok (.ifCond .eq 13, 3) := by decide +kernel
theorem d_M_digit_50 : decode b_M_digit 50 = .ok (.iload_n 0, 1) := by decide +kernel
theorem d_M_digit_51 : decode b_M_digit 51 = .ok (.bipush 65, 2) := by decide +kernel
theorem d_M_digit_53 : decode b_M_digit 53 = .ok (.isub, 1) := by decide +kernel
theorem d_M_digit_54 : decode b_M_digit 54 = .ok (.bipush 10, 2) := by decide +kernel
theorem d_M_digit_56 : decode b_M_digit 56 = .ok (.iadd, 1) := by decide +kernel
theorem d_M_digit_57 : decode b_M_digit 57 = .ok (.goto 5, 3) := by decide +kernel
theorem d_M_digit_60 : decode b_M_digit 60 = .ok (.bipush 99, 2) := by decide +kernel
theorem d_M_digit_62 : decode b_M_digit 62 = .ok (.ireturn, 1) := by decide +kernel
theorem d_M_timesSmall_0 : decode b_M_timesSmall 0 = .ok (.iload_n 3, 1) := by decide +kernel
theorem d_M_timesSmall_1 : decode b_M_timesSmall 1 = .ok (.i2l, 1) := by decide +kernel
theorem d_M_timesSmall_2 : decode b_M_timesSmall 2 = .ok (.lstore 4, 2) := by decide +kernel
theorem d_M_timesSmall_4 : decode b_M_timesSmall 4 = .ok (.iconst 0, 1) := by decide +kernel
theorem d_M_timesSmall_5 : decode b_M_timesSmall 5 = .ok (.istore 6, 2) := by decide +kernel
theorem d_M_timesSmall_7 : decode b_M_timesSmall 7 = .ok (.iload 6, 2) := by decide +kernel
theorem d_M_timesSmall_9 : decode b_M_timesSmall 9 = .ok (.iload_n 1, 1) := by decide +kernel
theorem d_M_timesSmall_10 : decode b_M_timesSmall 10 = .ok (.if_icmp .ge 40, 3) := by decide +kernel
theorem d_M_timesSmall_13 : decode b_M_timesSmall 13 = .ok (.lload 4, 2) := by decide +kernel
theorem d_M_timesSmall_15 : decode b_M_timesSmall 15 = .ok (.aload_n 0, 1) := by decide +kernel
theorem d_M_timesSmall_16 : decode b_M_timesSmall 16 = .ok (.iload 6, 2) := by decide +kernel
theorem d_M_timesSmall_18 : decode b_M_timesSmall 18 = .ok (.iaload, 1) := by decide +kernel
theorem d_M_timesSmall_19 : decode b_M_timesSmall 19 = .ok (.i2l, 1) := by decide +kernel
theorem d_M_timesSmall_20 : decode b_M_timesSmall 20 = .ok (.iload_n 2, 1) := by decide +kernel
theorem d_M_timesSmall_21 : decode b_M_timesSmall 21 = .ok (.i2l, 1) := by decide +kernel
theorem d_M_timesSmall_22 : decode b_M_timesSmall 22 = .ok (.lmul, 1) := by decide +kernel
theorem d_M_timesSmall_23 : decode b_M_timesSmall 23 = .ok (.ladd, 1) := by decide +kernel
theorem d_M_timesSmall_24 : decode b_M_timesSmall 24 = .ok (.lstore 4, 2) := by decide +kernel
theorem d_M_timesSmall_26 : decode b_M_timesSmall 26 = .ok (.aload_n 0, 1) := by decide +kernel
theorem d_M_timesSmall_27 : decode b_M_timesSmall 27 = .ok (.iload 6, 2) := by decide +kernel
theorem d_M_timesSmall_29 : decode b_M_timesSmall 29 = .ok (.lload 4, 2) := by decide +kernel
theorem d_M_timesSmall_31 : decode b_M_timesSmall 31 = .ok (.ldc2_w 58, 3) := by decide +kernel
theorem d_M_timesSmall_34 : decode b_M_timesSmall 34 = .ok (.land, 1) := by decide +kernel
theorem d_M_timesSmall_35 : decode b_M_timesSmall 35 = .ok (.l2i, 1) := by decide +kernel
theorem d_M_timesSmall_36 : decode b_M_timesSmall 36 = .ok (.iastore, 1) := by decide +kernel
theorem d_M_timesSmall_37 : decode b_M_timesSmall 37 = .ok (.lload 4, 2) := by decide +kernel
theorem d_M_timesSmall_39 : decode b_M_timesSmall 39 = .ok (.bipush 16, 2) := by decide +kernel
theorem d_M_timesSmall_41 : decode b_M_timesSmall 41 = .ok (.lshr, 1) := by decide +kernel
theorem d_M_timesSmall_42 : decode b_M_timesSmall 42 = .ok (.lstore 4, 2) := by decide +kernel
theorem d_M_timesSmall_44 : decode b_M_timesSmall 44 = .ok (.iinc 6 1, 3) := by decide +kernel
theorem d_M_timesSmall_47 : decode b_M_timesSmall 47 = .ok (.goto (-40), 3) := by decide +kernel
theorem d_M_timesSmall_50 : decode b_M_timesSmall 50 = .ok (.iload_n 1, 1) := by decide +kernel
theorem d_M_timesSmall_51 : decode b_M_timesSmall 51 = .ok (.istore 6, 2) := by decide +kernel
theorem d_M_timesSmall_53 : decode b_M_timesSmall 53 = .ok (.lload 4, 2) := by decide +kernel
theorem d_M_timesSmall_55 : decode b_M_timesSmall 55 = .ok (.lconst 0, 1) := by decide +kernel
theorem d_M_timesSmall_56 : decode b_M_timesSmall 56 = .ok (.lcmp, 1) := by decide +kernel
theorem d_M_timesSmall_57 : decode b_M_timesSmall 57 = .ok (.ifCond .eq 27, 3) := by decide +kernel
theorem d_M_timesSmall_60 : decode b_M_timesSmall 60 = .ok (.aload_n 0, 1) := by decide +kernel
theorem d_M_timesSmall_61 : decode b_M_timesSmall 61 = .ok (.iload 6, 2) := by decide +kernel
theorem d_M_timesSmall_63 : decode b_M_timesSmall 63 = .ok (.iinc 6 1, 3) := by decide +kernel
theorem d_M_timesSmall_66 : decode b_M_timesSmall 66 = .ok (.lload 4, 2) := by decide +kernel
theorem d_M_timesSmall_68 : decode b_M_timesSmall 68 = .ok (.ldc2_w 58, 3) := by decide +kernel
theorem d_M_timesSmall_71 : decode b_M_timesSmall 71 = .ok (.land, 1) := by decide +kernel
theorem d_M_timesSmall_72 : decode b_M_timesSmall 72 = .ok (.l2i, 1) := by decide +kernel
theorem d_M_timesSmall_73 : decode b_M_timesSmall 73 = .ok (.iastore, 1) := by decide +kernel
theorem d_M_timesSmall_74 : decode b_M_timesSmall 74 = .ok (.lload 4, 2) := by decide +kernel
theorem d_M_timesSmall_76 : decode b_M_timesSmall 76 = .ok (.bipush 16, 2) := by decide +kernel
theorem d_M_timesSmall_78 : decode b_M_timesSmall 78 = .ok (.lshr, 1) := by decide +kernel
theorem d_M_timesSmall_79 : decode b_M_timesSmall 79 = .ok (.lstore 4, 2) := by decide +kernel
theorem d_M_timesSmall_81 : decode b_M_timesSmall 81 = .ok (.goto (-28), 3) := by decide +kernel
theorem d_M_timesSmall_84 : decode b_M_timesSmall 84 = .ok (.iload 6, 2) := by decide +kernel
theorem d_M_timesSmall_86 : decode b_M_timesSmall 86 = .ok (.ireturn, 1) := by decide +kernel
theorem d_M_read_0 : decode b_M_read 0 = .ok (.aload_n 0, 1) := by decide +kernel
theorem d_M_read_1 : decode b_M_read 1 = .ok (.iconst 0, 1) := by decide +kernel
theorem d_M_read_2 : decode b_M_read 2 = .ok (.putfield 49, 3) := by decide +kernel
theorem d_M_read_5 : decode b_M_read 5 = .ok (.aload_n 0, 1) := by decide +kernel
theorem d_M_read_6 : decode b_M_read 6 = .ok (.getfield 97, 3) := by decide +kernel
theorem d_M_read_9 : decode b_M_read 9 = .ok (.istore_n 3, 1) := by decide +kernel
theorem d_M_read_10 : decode b_M_read 10 = .ok (.iload_n 3, 1) := by decide +kernel
theorem d_M_read_11 : decode b_M_read 11 = .ok (.ifCond .le 18, 3) := by decide +kernel
theorem d_M_read_14 : decode b_M_read 14 = .ok (.aload_n 0, 1) := by decide +kernel
theorem d_M_read_15 : decode b_M_read 15 = .ok (.getfield 19, 3) := by decide +kernel
theorem d_M_read_18 : decode b_M_read 18 = .ok (.iconst 0, 1) := by decide +kernel
theorem d_M_read_19 : decode b_M_read 19 = .ok (.iaload, 1) := by decide +kernel
theorem d_M_read_20 : decode b_M_read 20 = .ok (.bipush 45, 2) := by decide +kernel
theorem d_M_read_22 : decode b_M_read 22 = .ok (.if_icmp .ne 7, 3) := by decide +kernel
theorem d_M_read_25 : decode b_M_read 25 = .ok (.iconst 1, 1) := by decide +kernel
theorem d_M_read_26 : decode b_M_read 26 = .ok (.goto 4, 3) := by decide +kernel
theorem d_M_read_29 : decode b_M_read 29 = .ok (.iconst 0, 1) := by decide +kernel
theorem d_M_read_30 : decode b_M_read 30 = .ok (.istore 4, 2) := by decide +kernel
theorem d_M_read_32 : decode b_M_read 32 = .ok (.iconst 0, 1) := by decide +kernel
theorem d_M_read_33 : decode b_M_read 33 = .ok (.istore 5, 2) := by decide +kernel
theorem d_M_read_35 : decode b_M_read 35 = .ok (.aload_n 0, 1) := by decide +kernel
theorem d_M_read_36 : decode b_M_read 36 = .ok (.iconst 0, 1) := by decide +kernel
theorem d_M_read_37 : decode b_M_read 37 = .ok (.putfield 97, 3) := by decide +kernel
theorem d_M_read_40 : decode b_M_read 40 = .ok (.aload_n 0, 1) := by decide +kernel
theorem d_M_read_41 : decode b_M_read 41 = .ok (.iload_n 1, 1) := by decide +kernel
theorem d_M_read_42 : decode b_M_read 42 = .ok (.invokestatic 83, 3) := by decide +kernel
theorem d_M_read_45 : decode b_M_read 45 = .ok (.ifCond .eq 19, 3) := by decide +kernel
theorem d_M_read_48 : decode b_M_read 48 = .ok (.iload_n 2, 1) := by decide +kernel
theorem d_M_read_49 : decode b_M_read 49 = .ok (.iconst 2, 1) := by decide +kernel
theorem d_M_read_50 : decode b_M_read 50 = .ok (.bipush 36, 2) := by decide +kernel
theorem d_M_read_52 : decode b_M_read 52 = .ok (.invokestatic 68, 3) := by decide +kernel
theorem d_M_read_55 : decode b_M_read 55 = .ok (.ifCond .eq 9, 3) := by decide +kernel
theorem d_M_read_58 : decode b_M_read 58 = .ok (.iload_n 3, 1) := by decide +kernel
theorem d_M_read_59 : decode b_M_read 59 = .ok (.iload 4, 2) := by decide +kernel
theorem d_M_read_61 : decode b_M_read 61 = .ok (.if_icmp .ne 7, 3) := by decide +kernel
theorem d_M_read_64 : decode b_M_read 64 = .ok (.iconst 1, 1) := by decide +kernel
theorem d_M_read_65 : decode b_M_read 65 = .ok (.goto 4, 3) := by decide +kernel
theorem d_M_read_68 : decode b_M_read 68 = .ok (.iconst 0, 1) := by decide +kernel
theorem d_M_read_69 : decode b_M_read 69 = .ok (.iconst 1, 1) := by decide +kernel
theorem d_M_read_70 : decode b_M_read 70 = .ok (.invokevirtual 79, 3) := by decide +kernel
theorem d_M_read_73 : decode b_M_read 73 = .ok (.ifCond .eq 5, 3) := by decide +kernel
theorem d_M_read_76 : decode b_M_read 76 = .ok (.iconst 0, 1) := by decide +kernel
theorem d_M_read_77 : decode b_M_read 77 = .ok (.ireturn, 1) := by decide +kernel
theorem d_M_read_78 : decode b_M_read 78 = .ok (.iload 4, 2) := by decide +kernel
theorem d_M_read_80 : decode b_M_read 80 = .ok (.istore 6, 2) := by decide +kernel
theorem d_M_read_82 : decode b_M_read 82 = .ok (.iload 6, 2) := by decide +kernel
theorem d_M_read_84 : decode b_M_read 84 = .ok (.iload_n 3, 1) := by decide +kernel
theorem d_M_read_85 : decode b_M_read 85 = .ok (.if_icmp .ge 38, 3) := by decide +kernel
theorem d_M_read_88 : decode b_M_read 88 = .ok (.aload_n 0, 1) := by decide +kernel
theorem d_M_read_89 : decode b_M_read 89 = .ok (.aload_n 0, 1) := by decide +kernel
theorem d_M_read_90 : decode b_M_read 90 = .ok (.getfield 19, 3) := by decide +kernel
theorem d_M_read_93 : decode b_M_read 93 = .ok (.iload 6, 2) := by decide +kernel
theorem d_M_read_95 : decode b_M_read 95 = .ok (.iaload, 1) := by decide +kernel
theorem d_M_read_96 : decode b_M_read 96 = .ok (.invokestatic 100, 3) := by decide +kernel
theorem d_M_read_99 : decode b_M_read 99 = .ok (.iload_n 2, 1) := by decide +kernel
theorem d_M_read_100 : decode b_M_read 100 = .ok (.if_icmp .lt 7, 3) := by decide +kernel
theorem d_M_read_103 : decode b_M_read 103 = .ok (.iconst 1, 1) := by decide +kernel
theorem d_M_read_104 : decode b_M_read 104 = .ok (.goto 4, 3) := by decide +kernel
theorem d_M_read_107 : decode b_M_read 107 = .ok (.iconst 0, 1) := by decide +kernel
theorem d_M_read_108 : decode b_M_read 108 = .ok (.iconst 1, 1) := by decide +kernel
theorem d_M_read_109 : decode b_M_read 109 = .ok (.invokevirtual 79, 3) := by decide +kernel
theorem d_M_read_112 : decode b_M_read 112 = .ok (.ifCond .eq 5, 3) := by decide +kernel
theorem d_M_read_115 : decode b_M_read 115 = .ok (.iconst 0, 1) := by decide +kernel
theorem d_M_read_116 : decode b_M_read 116 = .ok (.ireturn, 1) := by decide +kernel
theorem d_M_read_117 : decode b_M_read 117 = .ok (.iinc 6 1, 3) := by decide +kernel
theorem d_M_read_120 : decode b_M_read 120 = .ok (.goto (-38), 3) := by decide +kernel
theorem d_M_read_123 : decode b_M_read 123 = .ok (.iload 4, 2) := by decide +kernel
theorem d_M_read_125 : decode b_M_read 125 = .ok (.istore 6, 2) := by decide +kernel
theorem d_M_read_127 : decode b_M_read 127 = .ok (.iload 6, 2) := by decide +kernel
theorem d_M_read_129 : decode b_M_read 129 = .ok (.iload_n 3, 1) := by decide +kernel
theorem d_M_read_130 : decode b_M_read 130 = .ok (.if_icmp .ge 31, 3) := by decide +kernel
theorem d_M_read_133 : decode b_M_read 133 = .ok (.aload_n 0, 1) := by decide +kernel
theorem d_M_read_134 : decode b_M_read 134 = .ok (.getfield 22, 3) := by decide +kernel
theorem d_M_read_137 : decode b_M_read 137 = .ok (.iload 5, 2) := by decide +kernel
theorem d_M_read_139 : decode b_M_read 139 = .ok (.iload_n 2, 1) := by decide +kernel
theorem d_M_read_140 : decode b_M_read 140 = .ok (.aload_n 0, 1) := by decide +kernel
theorem d_M_read_141 : decode b_M_read 141 = .ok (.getfield 19, 3) := by decide +kernel
theorem d_M_read_144 : decode b_M_read 144 = .ok (.iload 6, 2) := by decide +kernel
theorem d_M_read_146 : decode b_M_read 146 = .ok (.iaload, 1) := by decide +kernel
theorem d_M_read_147 : decode b_M_read 147 = .ok (.invokestatic 100, 3) := by decide +kernel
theorem d_M_read_150 : decode b_M_read 150 = .ok (.invokestatic 103, 3) := by decide +kernel
theorem d_M_read_153 : decode b_M_read 153 = .ok (.istore 5, 2) := by decide +kernel
theorem d_M_read_155 : decode b_M_read 155 = .ok (.iinc 6 1, 3) := by decide +kernel
theorem d_M_read_158 : decode b_M_read 158 = .ok (.goto (-31), 3) := by decide +kernel
theorem d_M_read_161 : decode b_M_read 161 = .ok (.aload_n 0, 1) := by decide +kernel
theorem d_M_read_162 : decode b_M_read 162 = .ok (.iload_n 1, 1) := by decide +kernel
theorem d_M_read_163 : decode b_M_read 163 = .ok (.iload 4, 2) := by decide +kernel
theorem d_M_read_165 : decode b_M_read 165 = .ok (.iconst 1, 1) := by decide +kernel
theorem d_M_read_166 : decode b_M_read 166 = .ok (.if_icmp .ne 7, 3) := by decide +kernel
theorem d_M_read_169 : decode b_M_read 169 = .ok (.iconst (-1), 1) := by decide +kernel
theorem d_M_read_170 : decode b_M_read 170 = .ok (.goto 4, 3) := by decide +kernel
theorem d_M_read_173 : decode b_M_read 173 = .ok (.iconst 1, 1) := by decide +kernel
theorem d_M_read_174 : decode b_M_read 174 = .ok (.aload_n 0, 1) := by decide +kernel
theorem d_M_read_175 : decode b_M_read 175 = .ok (.getfield 22, 3) := by decide +kernel
theorem d_M_read_178 : decode b_M_read 178 = .ok (.iload 5, 2) := by decide +kernel
theorem d_M_read_180 : decode b_M_read 180 = .ok (.iconst 2, 1) := by decide +kernel
theorem d_M_read_181 : decode b_M_read 181 = .ok (.invokevirtual 91, 3) := by decide +kernel
theorem d_M_read_184 : decode b_M_read 184 = .ok (.ifCond .ne 5, 3) := by decide +kernel
theorem d_M_read_187 : decode b_M_read 187 = .ok (.iconst 0, 1) := by decide +kernel
theorem d_M_read_188 : decode b_M_read 188 = .ok (.ireturn, 1) := by decide +kernel
theorem d_M_read_189 : decode b_M_read 189 = .ok (.aload_n 0, 1) := by decide +kernel
theorem d_M_read_190 : decode b_M_read 190 = .ok (.iload_n 1, 1) := by decide +kernel
theorem d_M_read_191 : decode b_M_read 191 = .ok (.invokevirtual 87, 3) := by decide +kernel
theorem d_M_read_194 : decode b_M_read 194 = .ok (.ireturn, 1) := by decide +kernel
theorem d_M_show_0 : decode b_M_show 0 = .ok (.aload_n 0, 1) := by decide +kernel
theorem d_M_show_1 : decode b_M_show 1 = .ok (.iconst 0, 1) := by decide +kernel
theorem d_M_show_2 : decode b_M_show 2 = .ok (.putfield 49, 3) := by decide +kernel
theorem d_M_show_5 : decode b_M_show 5 = .ok (.aload_n 0, 1) := by decide +kernel
theorem d_M_show_6 : decode b_M_show 6 = .ok (.iload_n 1, 1) := by decide +kernel
theorem d_M_show_7 : decode b_M_show 7 = .ok (.invokestatic 83, 3) := by decide +kernel
theorem d_M_show_10 : decode b_M_show 10 = .ok (.ifCond .eq 13, 3) := by decide +kernel
theorem d_M_show_13 : decode b_M_show 13 = .ok (.iload_n 2, 1) := by decide +kernel
theorem d_M_show_14 : decode b_M_show 14 = .ok (.iconst 2, 1) := by decide +kernel
theorem d_M_show_15 : decode b_M_show 15 = .ok (.bipush 36, 2) := by decide +kernel
theorem d_M_show_17 : decode b_M_show 17 = .ok (.invokestatic 68, 3) := by decide +kernel
theorem d_M_show_20 : decode b_M_show 20 = .ok (.ifCond .ne 7, 3) := by decide +kernel
theorem d_M_show_23 : decode b_M_show 23 = .ok (.iconst 1, 1) := by decide +kernel
theorem d_M_show_24 : decode b_M_show 24 = .ok (.goto 4, 3) := by decide +kernel
theorem d_M_show_27 : decode b_M_show 27 = .ok (.iconst 0, 1) := by decide +kernel
theorem d_M_show_28 : decode b_M_show 28 = .ok (.iconst 1, 1) := by decide +kernel
theorem d_M_show_29 : decode b_M_show 29 = .ok (.invokevirtual 79, 3) := by decide +kernel
theorem d_M_show_32 : decode b_M_show 32 = .ok (.ifCond .eq 5, 3) := by decide +kernel
theorem d_M_show_35 : decode b_M_show 35 = .ok (.iconst 0, 1) := by decide +kernel
theorem d_M_show_36 : decode b_M_show 36 = .ok (.ireturn, 1) := by decide +kernel
theorem d_M_show_37 : decode b_M_show 37 = .ok (.aload_n 0, 1) := by decide +kernel
theorem d_M_show_38 : decode b_M_show 38 = .ok (.iload_n 1, 1) := by decide +kernel
theorem d_M_show_39 : decode b_M_show 39 = .ok (.aload_n 0, 1) := by decide +kernel
theorem d_M_show_40 : decode b_M_show 40 = .ok (.getfield 22, 3) := by decide +kernel
theorem d_M_show_43 : decode b_M_show 43 = .ok (.invokevirtual 72, 3) := by decide +kernel
theorem d_M_show_46 : decode b_M_show 46 = .ok (.istore_n 3, 1) := by decide +kernel
theorem d_M_show_47 : decode b_M_show 47 = .ok (.iconst 0, 1) := by decide +kernel
theorem d_M_show_48 : decode b_M_show 48 = .ok (.istore 4, 2) := by decide +kernel
theorem d_M_show_50 : decode b_M_show 50 = .ok (.iload_n 3, 1) := by decide +kernel
theorem d_M_show_51 : decode b_M_show 51 = .ok (.ifCond .le 83, 3) := by decide +kernel
theorem d_M_show_54 : decode b_M_show 54 = .ok (.lconst 0, 1) := by decide +kernel
theorem d_M_show_55 : decode b_M_show 55 = .ok (.lstore 5, 2) := by decide +kernel
theorem d_M_show_57 : decode b_M_show 57 = .ok (.iload_n 3, 1) := by decide +kernel
theorem d_M_show_58 : decode b_M_show 58 = .ok (.iconst 1, 1) := by decide +kernel
theorem d_M_show_59 : decode b_M_show 59 = .ok (.isub, 1) := by decide +kernel
theorem d_M_show_60 : decode b_M_show 60 = .ok (.istore 7, 2) := by decide +kernel
theorem d_M_show_62 : decode b_M_show 62 = .ok (.iload 7, 2) := by decide +kernel
theorem d_M_show_64 : decode b_M_show 64 = .ok (.ifCond .lt 45, 3) := by decide +kernel
theorem d_M_show_67 : decode b_M_show 67 = .ok (.lload 5, 2) := by decide +kernel
theorem d_M_show_69 : decode b_M_show 69 = .ok (.bipush 16, 2) := by decide +kernel
theorem d_M_show_71 : decode b_M_show 71 = .ok (.lshl, 1) := by decide +kernel
theorem d_M_show_72 : decode b_M_show 72 = .ok (.aload_n 0, 1) := by decide +kernel
theorem d_M_show_73 : decode b_M_show 73 = .ok (.getfield 22, 3) := by decide +kernel
theorem d_M_show_76 : decode b_M_show 76 = .ok (.iload 7, 2) := by decide +kernel
theorem d_M_show_78 : decode b_M_show 78 = .ok (.iaload, 1) := by decide +kernel
theorem d_M_show_79 : decode b_M_show 79 = .ok (.i2l, 1) := by decide +kernel
theorem d_M_show_80 : decode b_M_show 80 = .ok (.lor, 1) := by decide +kernel
theorem d_M_show_81 : decode b_M_show 81 = .ok (.lstore 5, 2) := by decide +kernel
theorem d_M_show_83 : decode b_M_show 83 = .ok (.aload_n 0, 1) := by decide +kernel
theorem d_M_show_84 : decode b_M_show 84 = .ok (.getfield 22, 3) := by decide +kernel
theorem d_M_show_87 : decode b_M_show 87 = .ok (.iload 7, 2) := by decide +kernel
theorem d_M_show_89 : decode b_M_show 89 = .ok (.lload 5, 2) := by decide +kernel
theorem d_M_show_91 : decode b_M_show 91 = .ok (.iload_n 2, 1) := by decide +kernel
theorem d_M_show_92 : decode b_M_show 92 = .ok (.i2l, 1) := by decide +kernel
theorem d_M_show_93 : decode b_M_show 93 = .ok (.ldiv, 1) := by decide +kernel
theorem d_M_show_94 : decode b_M_show 94 = .ok (.l2i, 1) := by decide +kernel
theorem d_M_show_95 : decode b_M_show 95 = .ok (.iastore, 1) := by decide +kernel
theorem d_M_show_96 : decode b_M_show 96 = .ok (.lload 5, 2) := by decide +kernel
theorem d_M_show_98 : decode b_M_show 98 = .ok (.iload_n 2, 1) := by decide +kernel
theorem d_M_show_99 : decode b_M_show 99 = .ok (.i2l, 1) := by decide +kernel
theorem d_M_show_100 : decode b_M_show 100 = .ok (.lrem, 1) := by decide +kernel
theorem d_M_show_101 : decode b_M_show 101 = .ok (.lstore 5, 2) := by decide +kernel
theorem d_M_show_103 : decode b_M_show 103 = .ok (.iinc 7 (-1), 3) := by decide +kernel
theorem d_M_show_106 : decode b_M_show 106 = .ok (.goto (-44), 3) := by decide +kernel
theorem d_M_show_109 : decode b_M_show 109 = .ok (.aload_n 0, 1) := by decide +kernel
theorem d_M_show_110 : decode b_M_show 110 = .ok (.getfield 22, 3) := by decide +kernel
theorem d_M_show_113 : decode b_M_show 113 = .ok (.iload_n 3, 1) := by decide +kernel
theorem d_M_show_114 : decode b_M_show 114 = .ok (.invokestatic 54, 3) := by decide +kernel
theorem d_M_show_117 : decode b_M_show 117 = .ok (.istore_n 3, 1) := by decide +kernel
theorem d_M_show_118 : decode b_M_show 118 = .ok (.aload_n 0, 1) := by decide +kernel
theorem d_M_show_119 : decode b_M_show 119 = .ok (.getfield 25, 3) := by decide +kernel
theorem d_M_show_122 : decode b_M_show 122 = .ok (.iload 4, 2) := by decide +kernel
theorem d_M_show_124 : decode b_M_show 124 = .ok (.iinc 4 1, 3) := by decide +kernel
theorem d_M_show_127 : decode b_M_show 127 = .ok (.lload 5, 2) := by decide +kernel
theorem d_M_show_129 : decode b_M_show 129 = .ok (.l2i, 1) := by decide +kernel
theorem d_M_show_130 : decode b_M_show 130 = .ok (.iastore, 1) := by decide +kernel
theorem d_M_show_131 : decode b_M_show 131 = .ok (.goto (-81), 3) := by decide +kernel
theorem d_M_show_134 : decode b_M_show 134 = .ok (.iload 4, 2) := by decide +kernel
theorem d_M_show_136 : decode b_M_show 136 = .ok (.ifCond .ne 14, 3) := by decide +kernel
theorem d_M_show_139 : decode b_M_show 139 = .ok (.aload_n 0, 1) := by decide +kernel
theorem d_M_show_140 : decode b_M_show 140 = .ok (.getfield 25, 3) := by decide +kernel
theorem d_M_show_143 : decode b_M_show 143 = .ok (.iload 4, 2) := by decide +kernel
theorem d_M_show_145 : decode b_M_show 145 = .ok (.iinc 4 1, 3) := by decide +kernel
theorem d_M_show_148 : decode b_M_show 148 = .ok (.iconst 0, 1) := by decide +kernel
theorem d_M_show_149 : decode b_M_show 149 = .ok (.iastore, 1) := by decide +kernel
theorem d_M_show_150 : decode b_M_show 150 = .ok (.aload_n 0, 1) := by decide +kernel
theorem d_M_show_151 : decode b_M_show 151 = .ok (.iconst 0, 1) := by decide +kernel
theorem d_M_show_152 : decode b_M_show 152 = .ok (.putfield 97, 3) := by decide +kernel
theorem d_M_show_155 : decode b_M_show 155 = .ok (.aload_n 0, 1) := by decide +kernel
theorem d_M_show_156 : decode b_M_show 156 = .ok (.getfield 16, 3) := by decide +kernel
theorem d_M_show_159 : decode b_M_show 159 = .ok (.iload_n 1, 1) := by decide +kernel
theorem d_M_show_160 : decode b_M_show 160 = .ok (.iaload, 1) := by decide +kernel
theorem d_M_show_161 : decode b_M_show 161 = .ok (.ifCond .ge 21, 3) := by decide +kernel
theorem d_M_show_164 : decode b_M_show 164 = .ok (.aload_n 0, 1) := by decide +kernel
theorem d_M_show_165 : decode b_M_show 165 = .ok (.getfield 19, 3) := by decide +kernel
theorem d_M_show_168 : decode b_M_show 168 = .ok (.aload_n 0, 1) := by decide +kernel
theorem d_M_show_169 : decode b_M_show 169 = .ok (.dup, 1) := by decide +kernel
theorem d_M_show_170 : decode b_M_show 170 = .ok (.getfield 97, 3) := by decide +kernel
theorem d_M_show_173 : decode b_M_show 173 = .ok (.dup_x1, 1) := by decide +kernel
theorem d_M_show_174 : decode b_M_show 174 = .ok (.iconst 1, 1) := by decide +kernel
theorem d_M_show_175 : decode b_M_show 175 = .ok (.iadd, 1) := by decide +kernel
theorem d_M_show_176 : decode b_M_show 176 = .ok (.putfield 97, 3) := by decide +kernel
theorem d_M_show_179 : decode b_M_show 179 = .ok (.bipush 45, 2) := by decide +kernel
theorem d_M_show_181 : decode b_M_show 181 = .ok (.iastore, 1) := by decide +kernel
theorem d_M_show_182 : decode b_M_show 182 = .ok (.iload 4, 2) := by decide +kernel
theorem d_M_show_184 : decode b_M_show 184 = .ok (.iconst 1, 1) := by decide +kernel
theorem d_M_show_185 : decode b_M_show 185 = .ok (.isub, 1) := by decide +kernel
theorem d_M_show_186 : decode b_M_show 186 = .ok (.istore 5, 2) := by decide +kernel
theorem d_M_show_188 : decode b_M_show 188 = .ok (.iload 5, 2) := by decide +kernel
theorem d_M_show_190 : decode b_M_show 190 = .ok (.ifCond .lt 63, 3) := by decide +kernel
theorem d_M_show_193 : decode b_M_show 193 = .ok (.aload_n 0, 1) := by decide +kernel
theorem d_M_show_194 : decode b_M_show 194 = .ok (.getfield 19, 3) := by decide +kernel
theorem d_M_show_197 : decode b_M_show 197 = .ok (.aload_n 0, 1) := by decide +kernel
theorem d_M_show_198 : decode b_M_show 198 = .ok (.dup, 1) := by decide +kernel
theorem d_M_show_199 : decode b_M_show 199 = .ok (.getfield 97, 3) := by decide +kernel
theorem d_M_show_202 : decode b_M_show 202 = .ok (.dup_x1, 1) := by decide +kernel
theorem d_M_show_203 : decode b_M_show 203 = .ok (.iconst 1, 1) := by decide +kernel
theorem d_M_show_204 : decode b_M_show 204 = .ok (.iadd, 1) := by decide +kernel
theorem d_M_show_205 : decode b_M_show 205 = .ok (.putfield 97, 3) := by decide +kernel
theorem d_M_show_208 : decode b_M_show 208 = .ok (.aload_n 0, 1) := by decide +kernel
theorem d_M_show_209 : decode b_M_show 209 = .ok (.getfield 25, 3) := by decide +kernel
theorem d_M_show_212 : decode b_M_show 212 = .ok (.iload 5, 2) := by decide +kernel
theorem d_M_show_214 : decode b_M_show 214 = .ok (.iaload, 1) := by decide +kernel
theorem d_M_show_215 : decode b_M_show 215 = .ok (.bipush 10, 2) := by decide +kernel
theorem d_M_show_217 : decode b_M_show 217 = .ok (.if_icmp .ge 16, 3) := by decide +kernel
theorem d_M_show_220 : decode b_M_show 220 = .ok (.bipush 48, 2) := by decide +kernel
theorem d_M_show_222 : decode b_M_show 222 = .ok (.aload_n 0, 1) := by decide +kernel
theorem d_M_show_223 : decode b_M_show 223 = .ok (.getfield 25, 3) := by decide +kernel
theorem d_M_show_226 : decode b_M_show 226 = .ok (.iload 5, 2) := by decide +kernel
theorem d_M_show_228 : decode b_M_show 228 = .ok (.iaload, 1) := by decide +kernel
theorem d_M_show_229 : decode b_M_show 229 = .ok (.iadd, 1) := by decide +kernel
theorem d_M_show_230 : decode b_M_show 230 = .ok (.goto 16, 3) := by decide +kernel
theorem d_M_show_233 : decode b_M_show 233 = .ok (.bipush 97, 2) := by decide +kernel
theorem d_M_show_235 : decode b_M_show 235 = .ok (.aload_n 0, 1) := by decide +kernel
theorem d_M_show_236 : decode b_M_show 236 = .ok (.getfield 25, 3) := by decide +kernel
theorem d_M_show_239 : decode b_M_show 239 = .ok (.iload 5, 2) := by decide +kernel
theorem d_M_show_241 : decode b_M_show 241 = .ok (.iaload, 1) := by decide +kernel
theorem d_M_show_242 : decode b_M_show 242 = .ok (.iadd, 1) := by decide +kernel
theorem d_M_show_243 : decode b_M_show 243 = .ok (.bipush 10, 2) := by decide +kernel
theorem d_M_show_245 : decode b_M_show 245 = .ok (.isub, 1) := by decide +kernel
theorem d_M_show_246 : decode b_M_show 246 = .ok (.iastore, 1) := by decide +kernel
theorem d_M_show_247 : decode b_M_show 247 = .ok (.iinc 5 (-1), 3) := by decide +kernel
theorem d_M_show_250 : decode b_M_show 250 = .ok (.goto (-62), 3) := by decide +kernel
theorem d_M_show_253 : decode b_M_show 253 = .ok (.aload_n 0, 1) := by decide +kernel
theorem d_M_show_254 : decode b_M_show 254 = .ok (.getfield 97, 3) := by decide +kernel
theorem d_M_show_257 : decode b_M_show 257 = .ok (.ireturn, 1) := by decide +kernel
theorem d_M_letter_0 : decode b_M_letter 0 = .ok (.aload_n 0, 1) := by decide +kernel
theorem d_M_letter_1 : decode b_M_letter 1 = .ok (.iconst 0, 1) := by decide +kernel
theorem d_M_letter_2 : decode b_M_letter 2 = .ok (.putfield 49, 3) := by decide +kernel
theorem d_M_letter_5 : decode b_M_letter 5 = .ok (.aload_n 0, 1) := by decide +kernel
theorem d_M_letter_6 : decode b_M_letter 6 = .ok (.iload_n 1, 1) := by decide +kernel
theorem d_M_letter_7 : decode b_M_letter 7 = .ok (.iconst 0, 1) := by decide +kernel
theorem d_M_letter_8 : decode b_M_letter 8 = .ok (.aload_n 0, 1) := by decide +kernel
theorem d_M_letter_9 : decode b_M_letter 9 = .ok (.getfield 97, 3) := by decide +kernel
theorem d_M_letter_12 : decode b_M_letter 12 = .ok (.iconst 1, 1) := by decide +kernel
theorem d_M_letter_13 : decode b_M_letter 13 = .ok (.isub, 1) := by decide +kernel
theorem d_M_letter_14 : decode b_M_letter 14 = .ok (.invokestatic 68, 3) := by decide +kernel
theorem d_M_letter_17 : decode b_M_letter 17 = .ok (.ifCond .ne 7, 3) := by decide +kernel
theorem d_M_letter_20 : decode b_M_letter 20 = .ok (.iconst 1, 1) := by decide +kernel
theorem d_M_letter_21 : decode b_M_letter 21 = .ok (.goto 4, 3) := by decide +kernel
theorem d_M_letter_24 : decode b_M_letter 24 = .ok (.iconst 0, 1) := by decide +kernel
theorem d_M_letter_25 : decode b_M_letter 25 = .ok (.iconst 1, 1) := by decide +kernel
theorem d_M_letter_26 : decode b_M_letter 26 = .ok (.invokevirtual 79, 3) := by decide +kernel
theorem d_M_letter_29 : decode b_M_letter 29 = .ok (.ifCond .eq 7, 3) := by decide +kernel
theorem d_M_letter_32 : decode b_M_letter 32 = .ok (.iconst 0, 1) := by decide +kernel
theorem d_M_letter_33 : decode b_M_letter 33 = .ok (.goto 9, 3) := by decide +kernel
theorem d_M_letter_36 : decode b_M_letter 36 = .ok (.aload_n 0, 1) := by decide +kernel
theorem d_M_letter_37 : decode b_M_letter 37 = .ok (.getfield 19, 3) := by decide +kernel
theorem d_M_letter_40 : decode b_M_letter 40 = .ok (.iload_n 1, 1) := by decide +kernel
theorem d_M_letter_41 : decode b_M_letter 41 = .ok (.iaload, 1) := by decide +kernel
theorem d_M_letter_42 : decode b_M_letter 42 = .ok (.ireturn, 1) := by decide +kernel
theorem d_M_work_0 : decode b_M_work 0 = .ok (.aload_n 0, 1) := by decide +kernel
theorem d_M_work_1 : decode b_M_work 1 = .ok (.iconst 0, 1) := by decide +kernel
theorem d_M_work_2 : decode b_M_work 2 = .ok (.putfield 49, 3) := by decide +kernel
theorem d_M_work_5 : decode b_M_work 5 = .ok (.aload_n 0, 1) := by decide +kernel
theorem d_M_work_6 : decode b_M_work 6 = .ok (.iload_n 1, 1) := by decide +kernel
theorem d_M_work_7 : decode b_M_work 7 = .ok (.iconst 0, 1) := by decide +kernel
theorem d_M_work_8 : decode b_M_work 8 = .ok (.iconst 2, 1) := by decide +kernel
theorem d_M_work_9 : decode b_M_work 9 = .ok (.invokestatic 68, 3) := by decide +kernel
theorem d_M_work_12 : decode b_M_work 12 = .ok (.ifCond .eq 25, 3) := by decide +kernel
theorem d_M_work_15 : decode b_M_work 15 = .ok (.iload_n 2, 1) := by decide +kernel
theorem d_M_work_16 : decode b_M_work 16 = .ok (.invokestatic 83, 3) := by decide +kernel
theorem d_M_work_19 : decode b_M_work 19 = .ok (.ifCond .eq 18, 3) := by decide +kernel
theorem d_M_work_22 : decode b_M_work 22 = .ok (.iload_n 3, 1) := by decide +kernel
theorem d_M_work_23 : decode b_M_work 23 = .ok (.invokestatic 83, 3) := by decide +kernel
theorem d_M_work_26 : decode b_M_work 26 = .ok (.ifCond .eq 11, 3) := by decide +kernel
theorem d_M_work_29 : decode b_M_work 29 = .ok (.iload 4, 2) := by decide +kernel
theorem d_M_work_31 : decode b_M_work 31 = .ok (.invokestatic 83, 3) := by decide +kernel
theorem d_M_work_34 : decode b_M_work 34 = .ok (.ifCond .ne 7, 3) := by decide +kernel
theorem d_M_work_37 : decode b_M_work 37 = .ok (.iconst 1, 1) := by decide +kernel
theorem d_M_work_38 : decode b_M_work 38 = .ok (.goto 4, 3) := by decide +kernel
theorem d_M_work_41 : decode b_M_work 41 = .ok (.iconst 0, 1) := by decide +kernel
theorem d_M_work_42 : decode b_M_work 42 = .ok (.iconst 1, 1) := by decide +kernel
theorem d_M_work_43 : decode b_M_work 43 = .ok (.invokevirtual 79, 3) := by decide +kernel
theorem d_M_work_46 : decode b_M_work 46 = .ok (.ifCond .eq 5, 3) := by decide +kernel
theorem d_M_work_49 : decode b_M_work 49 = .ok (.iconst 0, 1) := by decide +kernel
theorem d_M_work_50 : decode b_M_work 50 = .ok (.ireturn, 1) := by decide +kernel
theorem d_M_work_51 : decode b_M_work 51 = .ok (.aload_n 0, 1) := by decide +kernel
theorem d_M_work_52 : decode b_M_work 52 = .ok (.iload_n 3, 1) := by decide +kernel
theorem d_M_work_53 : decode b_M_work 53 = .ok (.aload_n 0, 1) := by decide +kernel
theorem d_M_work_54 : decode b_M_work 54 = .ok (.getfield 22, 3) := by decide +kernel
theorem d_M_work_57 : decode b_M_work 57 = .ok (.invokevirtual 72, 3) := by decide +kernel
theorem d_M_work_60 : decode b_M_work 60 = .ok (.istore 5, 2) := by decide +kernel
theorem d_M_work_62 : decode b_M_work 62 = .ok (.aload_n 0, 1) := by decide +kernel
theorem d_M_work_63 : decode b_M_work 63 = .ok (.iload 4, 2) := by decide +kernel
theorem d_M_work_65 : decode b_M_work 65 = .ok (.aload_n 0, 1) := by decide +kernel
theorem d_M_work_66 : decode b_M_work 66 = .ok (.getfield 25, 3) := by decide +kernel
theorem d_M_work_69 : decode b_M_work 69 = .ok (.invokevirtual 72, 3) := by decide +kernel
theorem d_M_work_72 : decode b_M_work 72 = .ok (.istore 6, 2) := by decide +kernel
theorem d_M_work_74 : decode b_M_work 74 = .ok (.aload_n 0, 1) := by decide +kernel
theorem d_M_work_75 : decode b_M_work 75 = .ok (.getfield 16, 3) := by decide +kernel
theorem d_M_work_78 : decode b_M_work 78 = .ok (.iload_n 3, 1) := by decide +kernel
theorem d_M_work_79 : decode b_M_work 79 = .ok (.iaload, 1) := by decide +kernel
theorem d_M_work_80 : decode b_M_work 80 = .ok (.istore 7, 2) := by decide +kernel
