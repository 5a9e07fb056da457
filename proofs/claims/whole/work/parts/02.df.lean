theorem d_K_reduceProduct_8 : decode b_K_reduceProduct 8 = .ok (.aload_n 1, 1) := by decide +kernel
theorem d_K_reduceProduct_9 : decode b_K_reduceProduct 9 = .ok (.invokevirtual 206, 3) := by decide +kernel
theorem d_K_reduceProduct_12 : decode b_K_reduceProduct 12 = .ok (.aload_n 0, 1) := by decide +kernel
theorem d_K_reduceProduct_13 : decode b_K_reduceProduct 13 = .ok (.getfield 32, 3) := by decide +kernel
theorem d_K_reduceProduct_16 : decode b_K_reduceProduct 16 = .ok (.aload_n 0, 1) := by decide +kernel
theorem d_K_reduceProduct_17 : decode b_K_reduceProduct 17 = .ok (.getfield 28, 3) := by decide +kernel
theorem d_K_reduceProduct_20 : decode b_K_reduceProduct 20 = .ok (.getfield 149, 3) := by decide +kernel
theorem d_K_reduceProduct_23 : decode b_K_reduceProduct 23 = .ok (.invokevirtual 98, 3) := by decide +kernel
theorem d_K_reduceProduct_26 : decode b_K_reduceProduct 26 = .ok (.return_, 1) := by decide +kernel
theorem d_M_init_0 : decode b_M_init 0 = .ok (.aload_n 0, 1) := by decide +kernel
theorem d_M_init_1 : decode b_M_init 1 = .ok (.invokespecial 1, 3) := by decide +kernel
theorem d_M_init_4 : decode b_M_init 4 = .ok (.aload_n 0, 1) := by decide +kernel
theorem d_M_init_5 : decode b_M_init 5 = .ok (.sipush 2064, 3) := by decide +kernel
theorem d_M_init_8 : decode b_M_init 8 = .ok (.newarray .int, 2) := by decide +kernel
theorem d_M_init_10 : decode b_M_init 10 = .ok (.putfield 9, 3) := by decide +kernel
theorem d_M_init_13 : decode b_M_init 13 = .ok (.aload_n 0, 1) := by decide +kernel
theorem d_M_init_14 : decode b_M_init 14 = .ok (.bipush 16, 2) := by decide +kernel
theorem d_M_init_16 : decode b_M_init 16 = .ok (.newarray .int, 2) := by decide +kernel
theorem d_M_init_18 : decode b_M_init 18 = .ok (.putfield 13, 3) := by decide +kernel
theorem d_M_init_21 : decode b_M_init 21 = .ok (.aload_n 0, 1) := by decide +kernel
theorem d_M_init_22 : decode b_M_init 22 = .ok (.bipush 16, 2) := by decide +kernel
theorem d_M_init_24 : decode b_M_init 24 = .ok (.newarray .int, 2) := by decide +kernel
theorem d_M_init_26 : decode b_M_init 26 = .ok (.putfield 16, 3) := by decide +kernel
theorem d_M_init_29 : decode b_M_init 29 = .ok (.aload_n 0, 1) := by decide +kernel
theorem d_M_init_30 : decode b_M_init 30 = .ok (.sipush 2100, 3) := by decide +kernel
theorem d_M_init_33 : decode b_M_init 33 = .ok (.newarray .int, 2) := by decide +kernel
theorem d_M_init_35 : decode b_M_init 35 = .ok (.putfield 19, 3) := by decide +kernel
theorem d_M_init_38 : decode b_M_init 38 = .ok (.aload_n 0, 1) := by decide +kernel
theorem d_M_init_39 : decode b_M_init 39 = .ok (.sipush 9000, 3) := by decide +kernel
theorem d_M_init_42 : decode b_M_init 42 = .ok (.newarray .int, 2) := by decide +kernel
theorem d_M_init_44 : decode b_M_init 44 = .ok (.putfield 22, 3) := by decide +kernel
theorem d_M_init_47 : decode b_M_init 47 = .ok (.aload_n 0, 1) := by decide +kernel
theorem d_M_init_48 : decode b_M_init 48 = .ok (.sipush 9000, 3) := by decide +kernel
theorem d_M_init_51 : decode b_M_init 51 = .ok (.newarray .int, 2) := by decide +kernel
theorem d_M_init_53 : decode b_M_init 53 = .ok (.putfield 25, 3) := by decide +kernel
theorem d_M_init_56 : decode b_M_init 56 = .ok (.aload_n 0, 1) := by decide +kernel
theorem d_M_init_57 : decode b_M_init 57 = .ok (.sipush 9000, 3) := by decide +kernel
theorem d_M_init_60 : decode b_M_init 60 = .ok (.newarray .int, 2) := by decide +kernel
theorem d_M_init_62 : decode b_M_init 62 = .ok (.putfield 28, 3) := by decide +kernel
theorem d_M_init_65 : decode b_M_init 65 = .ok (.aload_n 0, 1) := by decide +kernel
theorem d_M_init_66 : decode b_M_init 66 = .ok (.sipush 9000, 3) := by decide +kernel
theorem d_M_init_69 : decode b_M_init 69 = .ok (.newarray .int, 2) := by decide +kernel
theorem d_M_init_71 : decode b_M_init 71 = .ok (.putfield 31, 3) := by decide +kernel
theorem d_M_init_74 : decode b_M_init 74 = .ok (.aload_n 0, 1) := by decide +kernel
theorem d_M_init_75 : decode b_M_init 75 = .ok (.sipush 9000, 3) := by decide +kernel
theorem d_M_init_78 : decode b_M_init 78 = .ok (.newarray .int, 2) := by decide +kernel
theorem d_M_init_80 : decode b_M_init 80 = .ok (.putfield 34, 3) := by decide +kernel
theorem d_M_init_83 : decode b_M_init 83 = .ok (.aload_n 0, 1) := by decide +kernel
theorem d_M_init_84 : decode b_M_init 84 = .ok (.sipush 9000, 3) := by decide +kernel
theorem d_M_init_87 : decode b_M_init 87 = .ok (.newarray .int, 2) := by decide +kernel
theorem d_M_init_89 : decode b_M_init 89 = .ok (.putfield 37, 3) := by decide +kernel
theorem d_M_init_92 : decode b_M_init 92 = .ok (.aload_n 0, 1) := by decide +kernel
theorem d_M_init_93 : decode b_M_init 93 = .ok (.sipush 9000, 3) := by decide +kernel
theorem d_M_init_96 : decode b_M_init 96 = .ok (.newarray .int, 2) := by decide +kernel
theorem d_M_init_98 : decode b_M_init 98 = .ok (.putfield 40, 3) := by decide +kernel
theorem d_M_init_101 : decode b_M_init 101 = .ok (.aload_n 0, 1) := by decide +kernel
theorem d_M_init_102 : decode b_M_init 102 = .ok (.sipush 129, 3) := by decide +kernel
theorem d_M_init_105 : decode b_M_init 105 = .ok (.newarray .int, 2) := by decide +kernel
theorem d_M_init_107 : decode b_M_init 107 = .ok (.putfield 43, 3) := by decide +kernel
theorem d_M_init_110 : decode b_M_init 110 = .ok (.aload_n 0, 1) := by decide +kernel
theorem d_M_init_111 : decode b_M_init 111 = .ok (.sipush 129, 3) := by decide +kernel
theorem d_M_init_114 : decode b_M_init 114 = .ok (.newarray .int, 2) := by decide +kernel
theorem d_M_init_116 : decode b_M_init 116 = .ok (.putfield 46, 3) := by decide +kernel
theorem d_M_init_119 : decode b_M_init 119 = .ok (.return_, 1) := by decide +kernel
theorem d_M_thrown_0 : decode b_M_thrown 0 = .ok (.aload_n 0, 1) := by decide +kernel
theorem d_M_thrown_1 : decode b_M_thrown 1 = .ok (.getfield 49, 3) := by decide +kernel
theorem d_M_thrown_4 : decode b_M_thrown 4 = .ok (.ireturn, 1) := by decide +kernel
theorem d_M_compared_0 : decode b_M_compared 0 = .ok (.iload_n 1, 1) := by decide +kernel
theorem d_M_compared_1 : decode b_M_compared 1 = .ok (.iload_n 3, 1) := by decide +kernel
theorem d_M_compared_2 : decode b_M_compared 2 = .ok (.if_icmp .eq 14, 3) := by decide +kernel
theorem d_M_compared_5 : decode b_M_compared 5 = .ok (.iload_n 1, 1) := by decide +kernel
theorem d_M_compared_6 : decode b_M_compared 6 = .ok (.iload_n 3, 1) := by decide +kernel
theorem d_M_compared_7 : decode b_M_compared 7 = .ok (.if_icmp .ge 7, 3) := by decide +kernel
theorem d_M_compared_10 : decode b_M_compared 10 = .ok (.iconst (-1), 1) := by decide +kernel
theorem d_M_compared_11 : decode b_M_compared 11 = .ok (.goto 4, 3) := by decide +kernel
theorem d_M_compared_14 : decode b_M_compared 14 = .ok (.iconst 1, 1) := by decide +kernel
theorem d_M_compared_15 : decode b_M_compared 15 = .ok (.ireturn, 1) := by decide +kernel
theorem d_M_compared_16 : decode b_M_compared 16 = .ok (.iload_n 1, 1) := by decide +kernel
theorem d_M_compared_17 : decode b_M_compared 17 = .ok (.iconst 1, 1) := by decide +kernel
theorem d_M_compared_18 : decode b_M_compared 18 = .ok (.isub, 1) := by decide +kernel
theorem d_M_compared_19 : decode b_M_compared 19 = .ok (.istore 4, 2) := by decide +kernel
theorem d_M_compared_21 : decode b_M_compared 21 = .ok (.iload 4, 2) := by decide +kernel
theorem d_M_compared_23 : decode b_M_compared 23 = .ok (.ifCond .lt 37, 3) := by decide +kernel
theorem d_M_compared_26 : decode b_M_compared 26 = .ok (.aload_n 0, 1) := by decide +kernel
theorem d_M_compared_27 : decode b_M_compared 27 = .ok (.iload 4, 2) := by decide +kernel
theorem d_M_compared_29 : decode b_M_compared 29 = .ok (.iaload, 1) := by decide +kernel
theorem d_M_compared_30 : decode b_M_compared 30 = .ok (.aload_n 2, 1) := by decide +kernel
theorem d_M_compared_31 : decode b_M_compared 31 = .ok (.iload 4, 2) := by decide +kernel
theorem d_M_compared_33 : decode b_M_compared 33 = .ok (.iaload, 1) := by decide +kernel
theorem d_M_compared_34 : decode b_M_compared 34 = .ok (.if_icmp .eq 20, 3) := by decide +kernel
theorem d_M_compared_37 : decode b_M_compared 37 = .ok (.aload_n 0, 1) := by decide +kernel
theorem d_M_compared_38 : decode b_M_compared 38 = .ok (.iload 4, 2) := by decide +kernel
theorem d_M_compared_40 : decode b_M_compared 40 = .ok (.iaload, 1) := by decide +kernel
theorem d_M_compared_41 : decode b_M_compared 41 = .ok (.aload_n 2, 1) := by decide +kernel
theorem d_M_compared_42 : decode b_M_compared 42 = .ok (.iload 4, 2) := by decide +kernel
theorem d_M_compared_44 : decode b_M_compared 44 = .ok (.iaload, 1) := by decide +kernel
theorem d_M_compared_45 : decode b_M_compared 45 = .ok (.if_icmp .ge 7, 3) := by decide +kernel
theorem d_M_compared_48 : decode b_M_compared 48 = .ok (.iconst (-1), 1) := by decide +kernel
theorem d_M_compared_49 : decode b_M_compared 49 = .ok (.goto 4, 3) := by decide +kernel
theorem d_M_compared_52 : decode b_M_compared 52 = .ok (.iconst 1, 1) := by decide +kernel
theorem d_M_compared_53 : decode b_M_compared 53 = .ok (.ireturn, 1) := by decide +kernel
theorem d_M_compared_54 : decode b_M_compared 54 = .ok (.iinc 4 (-1), 3) := by decide +kernel
theorem d_M_compared_57 : decode b_M_compared 57 = .ok (.goto (-36), 3) := by decide +kernel
theorem d_M_compared_60 : decode b_M_compared 60 = .ok (.iconst 0, 1) := by decide +kernel
theorem d_M_compared_61 : decode b_M_compared 61 = .ok (.ireturn, 1) := by decide +kernel
theorem d_M_plus_0 : decode b_M_plus 0 = .ok (.iconst 0, 1) := by decide +kernel
theorem d_M_plus_1 : decode b_M_plus 1 = .ok (.istore 5, 2) := by decide +kernel
theorem d_M_plus_3 : decode b_M_plus 3 = .ok (.iload_n 1, 1) := by decide +kernel
theorem d_M_plus_4 : decode b_M_plus 4 = .ok (.iload_n 3, 1) := by decide +kernel
theorem d_M_plus_5 : decode b_M_plus 5 = .ok (.if_icmp .le 7, 3) := by decide +kernel
theorem d_M_plus_8 : decode b_M_plus 8 = .ok (.iload_n 1, 1) := by decide +kernel
theorem d_M_plus_9 : decode b_M_plus 9 = .ok (.goto 4, 3) := by decide +kernel
theorem d_M_plus_12 : decode b_M_plus 12 = .ok (.iload_n 3, 1) := by decide +kernel
theorem d_M_plus_13 : decode b_M_plus 13 = .ok (.istore 6, 2) := by decide +kernel
theorem d_M_plus_15 : decode b_M_plus 15 = .ok (.iconst 0, 1) := by decide +kernel
theorem d_M_plus_16 : decode b_M_plus 16 = .ok (.istore 7, 2) := by decide +kernel
theorem d_M_plus_18 : decode b_M_plus 18 = .ok (.iload 7, 2) := by decide +kernel
theorem d_M_plus_20 : decode b_M_plus 20 = .ok (.iload 6, 2) := by decide +kernel
theorem d_M_plus_22 : decode b_M_plus 22 = .ok (.if_icmp .ge 60, 3) := by decide +kernel
theorem d_M_plus_25 : decode b_M_plus 25 = .ok (.iload 5, 2) := by decide +kernel
theorem d_M_plus_27 : decode b_M_plus 27 = .ok (.iload 7, 2) := by decide +kernel
theorem d_M_plus_29 : decode b_M_plus 29 = .ok (.iload_n 1, 1) := by decide +kernel
theorem d_M_plus_30 : decode b_M_plus 30 = .ok (.if_icmp .ge 10, 3) := by decide +kernel
theorem d_M_plus_33 : decode b_M_plus 33 = .ok (.aload_n 0, 1) := by decide +kernel
theorem d_M_plus_34 : decode b_M_plus 34 = .ok (.iload 7, 2) := by decide +kernel
theorem d_M_plus_36 : decode b_M_plus 36 = .ok (.iaload, 1) := by decide +kernel
theorem d_M_plus_37 : decode b_M_plus 37 = .ok (.goto 4, 3) := by decide +kernel
theorem d_M_plus_40 : decode b_M_plus 40 = .ok (.iconst 0, 1) := by decide +kernel
theorem d_M_plus_41 : decode b_M_plus 41 = .ok (.iload 7, 2) := by decide +kernel
theorem d_M_plus_43 : decode b_M_plus 43 = .ok (.iload_n 3, 1) := by decide +kernel
theorem d_M_plus_44 : decode b_M_plus 44 = .ok (.if_icmp .ge 10, 3) := by decide +kernel
theorem d_M_plus_47 : decode b_M_plus 47 = .ok (.aload_n 2, 1) := by decide +kernel
theorem d_M_plus_48 : decode b_M_plus 48 = .ok (.iload 7, 2) := by decide +kernel
theorem d_M_plus_50 : decode b_M_plus 50 = .ok (.iaload, 1) := by decide +kernel
theorem d_M_plus_51 : decode b_M_plus 51 = .ok (.goto 4, 3) := by decide +kernel
theorem d_M_plus_54 : decode b_M_plus 54 = .ok (.iconst 0, 1) := by decide +kernel
theorem d_M_plus_55 : decode b_M_plus 55 = .ok (.iadd, 1) := by decide +kernel
theorem d_M_plus_56 : decode b_M_plus 56 = .ok (.iadd, 1) := by decide +kernel
theorem d_M_plus_57 : decode b_M_plus 57 = .ok (.istore 5, 2) := by decide +kernel
theorem d_M_plus_59 : decode b_M_plus 59 = .ok (.aload 4, 2) := by decide +kernel
theorem d_M_plus_61 : decode b_M_plus 61 = .ok (.iload 7, 2) := by decide +kernel
theorem d_M_plus_63 : decode b_M_plus 63 = .ok (.iload 5, 2) := by decide +kernel
theorem d_M_plus_65 : decode b_M_plus 65 = .ok (.ldc 53, 2) := by decide +kernel
theorem d_M_plus_67 : decode b_M_plus 67 = .ok (.iand, 1) := by decide +kernel
theorem d_M_plus_68 : decode b_M_plus 68 = .ok (.iastore, 1) := by decide +kernel
theorem d_M_plus_69 : decode b_M_plus 69 = .ok (.iload 5, 2) := by decide +kernel
theorem d_M_plus_71 : decode b_M_plus 71 = .ok (.bipush 16, 2) := by decide +kernel
theorem d_M_plus_73 : decode b_M_plus 73 = .ok (.ishr, 1) := by decide +kernel
theorem d_M_plus_74 : decode b_M_plus 74 = .ok (.istore 5, 2) := by decide +kernel
theorem d_M_plus_76 : decode b_M_plus 76 = .ok (.iinc 7 1, 3) := by decide +kernel
theorem d_M_plus_79 : decode b_M_plus 79 = .ok (.goto (-61), 3) := by decide +kernel
theorem d_M_plus_82 : decode b_M_plus 82 = .ok (.aload 4, 2) := by decide +kernel
theorem d_M_plus_84 : decode b_M_plus 84 = .ok (.iload 6, 2) := by decide +kernel
theorem d_M_plus_86 : decode b_M_plus 86 = .ok (.iload 5, 2) := by decide +kernel
theorem d_M_plus_88 : decode b_M_plus 88 = .ok (.iastore, 1) := by decide +kernel
theorem d_M_plus_89 : decode b_M_plus 89 = .ok (.aload 4, 2) := by decide +kernel
theorem d_M_plus_91 : decode b_M_plus 91 = .ok (.iload 6, 2) := by decide +kernel
theorem d_M_plus_93 : decode b_M_plus 93 = .ok (.iconst 1, 1) := by decide +kernel
theorem d_M_plus_94 : decode b_M_plus 94 = .ok (.iadd, 1) := by decide +kernel
theorem d_M_plus_95 : decode b_M_plus 95 = .ok (.invokestatic 54, 3) := by decide +kernel
theorem d_M_plus_98 : decode b_M_plus 98 = .ok (.ireturn, 1) := by decide +kernel
theorem d_M_less_0 : decode b_M_less 0 = .ok (.iconst 0, 1) := by decide +kernel
theorem d_M_less_1 : decode b_M_less 1 = .ok (.istore 5, 2) := by decide +kernel
theorem d_M_less_3 : decode b_M_less 3 = .ok (.iconst 0, 1) := by decide +kernel
theorem d_M_less_4 : decode b_M_less 4 = .ok (.istore 6, 2) := by decide +kernel
theorem d_M_less_6 : decode b_M_less 6 = .ok (.iload 6, 2) := by decide +kernel
theorem d_M_less_8 : decode b_M_less 8 = .ok (.iload_n 1, 1) := by decide +kernel
theorem d_M_less_9 : decode b_M_less 9 = .ok (.if_icmp .ge 50, 3) := by decide +kernel
theorem d_M_less_12 : decode b_M_less 12 = .ok (.iload 5, 2) := by decide +kernel
theorem d_M_less_14 : decode b_M_less 14 = .ok (.aload_n 0, 1) := by decide +kernel
theorem d_M_less_15 : decode b_M_less 15 = .ok (.iload 6, 2) := by decide +kernel
theorem d_M_less_17 : decode b_M_less 17 = .ok (.iaload, 1) := by decide +kernel
theorem d_M_less_18 : decode b_M_less 18 = .ok (.iload 6, 2) := by decide +kernel
theorem d_M_less_20 : decode b_M_less 20 = .ok (.iload_n 3, 1) := by decide +kernel
theorem d_M_less_21 : decode b_M_less 21 = .ok (.if_icmp .ge 10, 3) := by decide +kernel
theorem d_M_less_24 : decode b_M_less 24 = .ok (.aload_n 2, 1) := by decide +kernel
theorem d_M_less_25 : decode b_M_less 25 = .ok (.iload 6, 2) := by decide +kernel
theorem d_M_less_27 : decode b_M_less 27 = .ok (.iaload, 1) := by decide +kernel
theorem d_M_less_28 : decode b_M_less 28 = .ok (.goto 4, 3) := by decide +kernel
theorem d_M_less_31 : decode b_M_less 31 = .ok (.iconst 0, 1) := by decide +kernel
theorem d_M_less_32 : decode b_M_less 32 = .ok (.isub, 1) := by decide +kernel
theorem d_M_less_33 : decode b_M_less 33 = .ok (.iadd, 1) := by decide +kernel
theorem d_M_less_34 : decode b_M_less 34 = .ok (.istore 5, 2) := by decide +kernel
theorem d_M_less_36 : decode b_M_less 36 = .ok (.aload 4, 2) := by decide +kernel
theorem d_M_less_38 : decode b_M_less 38 = .ok (.iload 6, 2) := by decide +kernel
theorem d_M_less_40 : decode b_M_less 40 = .ok (.iload 5, 2) := by decide +kernel
theorem d_M_less_42 : decode b_M_less 42 = .ok (.ldc 53, 2) := by decide +kernel
theorem d_M_less_44 : decode b_M_less 44 = .ok (.iand, 1) := by decide +kernel
theorem d_M_less_45 : decode b_M_less 45 = .ok (.iastore, 1) := by decide +kernel
theorem d_M_less_46 : decode b_M_less 46 = .ok (.iload 5, 2) := by decide +kernel
theorem d_M_less_48 : decode b_M_less 48 = .ok (.bipush 16, 2) := by decide +kernel
theorem d_M_less_50 : decode b_M_less 50 = .ok (.ishr, 1) := by decide +kernel
theorem d_M_less_51 : decode b_M_less 51 = .ok (.istore 5, 2) := by decide +kernel
theorem d_M_less_53 : decode b_M_less 53 = .ok (.iinc 6 1, 3) := by decide +kernel
theorem d_M_less_56 : decode b_M_less 56 = .ok (.goto (-50), 3) := by decide +kernel
theorem d_M_less_59 : decode b_M_less 59 = .ok (.aload 4, 2) := by decide +kernel
theorem d_M_less_61 : decode b_M_less 61 = .ok (.iload_n 1, 1) := by decide +kernel
theorem d_M_less_62 : decode b_M_less 62 = .ok (.invokestatic 54, 3) := by decide +kernel
theorem d_M_less_65 : decode b_M_less 65 = .ok (.ireturn, 1) := by decide +kernel
theorem d_M_trim_0 : decode b_M_trim 0 = .ok (.iload_n 1, 1) := by decide +kernel
theorem d_M_trim_1 : decode b_M_trim 1 = .ok (.istore_n 2, 1) := by decide +kernel
theorem d_M_trim_2 : decode b_M_trim 2 = .ok (.iload_n 2, 1) := by decide +kernel
theorem d_M_trim_3 : decode b_M_trim 3 = .ok (.ifCond .le 17, 3) := by decide +kernel
theorem d_M_trim_6 : decode b_M_trim 6 = .ok (.aload_n 0, 1) := by decide +kernel
theorem d_M_trim_7 : decode b_M_trim 7 = .ok (.iload_n 2, 1) := by decide +kernel
theorem d_M_trim_8 : decode b_M_trim 8 = .ok (.iconst 1, 1) := by decide +kernel
theorem d_M_trim_9 : decode b_M_trim 9 = .ok (.isub, 1) := by decide +kernel
theorem d_M_trim_10 : decode b_M_trim 10 = .ok (.iaload, 1) := by decide +kernel
theorem d_M_trim_11 : decode b_M_trim 11 = .ok (.ifCond .ne 9, 3) := by decide +kernel
theorem d_M_trim_14 : decode b_M_trim 14 = .ok (.iinc 2 (-1), 3) := by decide +kernel
theorem d_M_trim_17 : decode b_M_trim 17 = .ok (.goto (-15), 3) := by decide +kernel
theorem d_M_trim_20 : decode b_M_trim 20 = .ok (.iload_n 2, 1) := by decide +kernel
theorem d_M_trim_21 : decode b_M_trim 21 = .ok (.ireturn, 1) := by decide +kernel
theorem d_M_times_0 : decode b_M_times 0 = .ok (.iconst 0, 1) := by decide +kernel
theorem d_M_times_1 : decode b_M_times 1 = .ok (.istore 5, 2) := by decide +kernel
theorem d_M_times_3 : decode b_M_times 3 = .ok (.iload 5, 2) := by decide +kernel
theorem d_M_times_5 : decode b_M_times 5 = .ok (.iload_n 1, 1) := by decide +kernel
theorem d_M_times_6 : decode b_M_times 6 = .ok (.iload_n 3, 1) := by decide +kernel
theorem d_M_times_7 : decode b_M_times 7 = .ok (.iadd, 1) := by decide +kernel
theorem d_M_times_8 : decode b_M_times 8 = .ok (.if_icmp .ge 15, 3) := by decide +kernel
theorem d_M_times_11 : decode b_M_times 11 = .ok (.aload 4, 2) := by decide +kernel
theorem d_M_times_13 : decode b_M_times 13 = .ok (.iload 5, 2) := by decide +kernel
theorem d_M_times_15 : decode b_M_times 15 = .ok (.iconst 0, 1) := by decide +kernel
theorem d_M_times_16 : decode b_M_times 16 = .ok (.iastore, 1) := by decide +kernel
theorem d_M_times_17 : decode b_M_times 17 = .ok (.iinc 5 1, 3) := by decide +kernel
theorem d_M_times_20 : decode b_M_times 20 = .ok (.goto (-17), 3) := by decide +kernel
theorem d_M_times_23 : decode b_M_times 23 = .ok (.iconst 0, 1) := by decide +kernel
theorem d_M_times_24 : decode b_M_times 24 = .ok (.istore 5, 2) := by decide +kernel
theorem d_M_times_26 : decode b_M_times 26 = .ok (.iload 5, 2) := by decide +kernel
theorem d_M_times_28 : decode b_M_times 28 = .ok (.iload_n 1, 1) := by decide +kernel
theorem d_M_times_29 : decode b_M_times 29 = .ok (.if_icmp .ge 85, 3) := by decide +kernel
theorem d_M_times_32 : decode b_M_times 32 = .ok (.lconst 0, 1) := by decide +kernel
theorem d_M_times_33 : decode b_M_times 33 = .ok (.lstore 6, 2) := by decide +kernel
theorem d_M_times_35 : decode b_M_times 35 = .ok (.iconst 0, 1) := by decide +kernel
theorem d_M_times_36 : decode b_M_times 36 = .ok (.istore 8, 2) := by decide +kernel
theorem d_M_times_38 : decode b_M_times 38 = .ok (.iload 8, 2) := by decide +kernel
theorem d_M_times_40 : decode b_M_times 40 = .ok (.iload_n 3, 1) := by decide +kernel
theorem d_M_times_41 : decode b_M_times 41 = .ok (.if_icmp .ge 57, 3) := by decide +kernel
theorem d_M_times_44 : decode b_M_times 44 = .ok (.lload 6, 2) := by decide +kernel
theorem d_M_times_46 : decode b_M_times 46 = .ok (.aload_n 0, 1) := by decide +kernel
theorem d_M_times_47 : decode b_M_times 47 = .ok (.iload 5, 2) := by decide +kernel
theorem d_M_times_49 : decode b_M_times 49 = .ok (.iaload, 1) := by decide +kernel
theorem d_M_times_50 : decode b_M_times 50 = .ok (.i2l, 1) := by decide +kernel
theorem d_M_times_51 : decode b_M_times 51 = .ok (.aload_n 2, 1) := by decide +kernel
theorem d_M_times_52 : decode b_M_times 52 = .ok (.iload 8, 2) := by decide +kernel
theorem d_M_times_54 : decode b_M_times 54 = .ok (.iaload, 1) := by decide +kernel
theorem d_M_times_55 : decode b_M_times 55 = .ok (.i2l, 1) := by decide +kernel
theorem d_M_times_56 : decode b_M_times 56 = .ok (.lmul, 1) := by decide +kernel
theorem d_M_times_57 : decode b_M_times 57 = .ok (.aload 4, 2) := by decide +kernel
theorem d_M_times_59 : decode b_M_times 59 = .ok (.iload 5, 2) := by decide +kernel
theorem d_M_times_61 : decode b_M_times 61 = .ok (.iload 8, 2) := by decide +kernel
theorem d_M_times_63 : decode b_M_times 63 = .ok (.iadd, 1) := by decide +kernel
theorem d_M_times_64 : decode b_M_times 64 = .ok (.iaload, 1) := by decide +kernel
theorem d_M_times_65 : decode b_M_times 65 = .ok (.i2l, 1) := by decide +kernel
theorem d_M_times_66 : decode b_M_times 66 = .ok (.ladd, 1) := by decide +kernel
theorem d_M_times_67 : decode b_M_times 67 = .ok (.ladd, 1) := by decide +kernel
theorem d_M_times_68 : decode b_M_times 68 = .ok (.lstore 6, 2) := by decide +kernel
theorem d_M_times_70 : decode b_M_times 70 = .ok (.aload 4, 2) := by decide +kernel
theorem d_M_times_72 : decode b_M_times 72 = .ok (.iload 5, 2) := by decide +kernel
theorem d_M_times_74 : decode b_M_times 74 = .ok (.iload 8, 2) := by decide +kernel
theorem d_M_times_76 : decode b_M_times 76 = .ok (.iadd, 1) := by decide +kernel
theorem d_M_times_77 : decode b_M_times 77 = .ok (.lload 6, 2) := by decide +kernel
theorem d_M_times_79 : decode b_M_times 79 = .ok (.ldc2_w 58, 3) := by decide +kernel
theorem d_M_times_82 : decode b_M_times 82 = .ok (.land, 1) := by decide +kernel
theorem d_M_times_83 : decode b_M_times 83 = .ok (.l2i, 1) := by decide +kernel
theorem d_M_times_84 : decode b_M_times 84 = .ok (.iastore, 1) := by decide +kernel
theorem d_M_times_85 : decode b_M_times 85 = .ok (.lload 6, 2) := by decide +kernel
theorem d_M_times_87 : decode b_M_times 87 = .ok (.bipush 16, 2) := by decide +kernel
theorem d_M_times_89 : decode b_M_times 89 = .ok (.lushr, 1) := by decide +kernel
theorem d_M_times_90 : decode b_M_times 90 = .ok (.lstore 6, 2) := by decide +kernel
theorem d_M_times_92 : decode b_M_times 92 = .ok (.iinc 8 1, 3) := by decide +kernel
theorem d_M_times_95 : decode b_M_times 95 = .ok (.goto (-57), 3) := by decide +kernel
theorem d_M_times_98 : decode b_M_times 98 = .ok (.aload 4, 2) := by decide +kernel
theorem d_M_times_100 : decode b_M_times 100 = .ok (.iload 5, 2) := by decide +kernel
theorem d_M_times_102 : decode b_M_times 102 = .ok (.iload_n 3, 1) := by decide +kernel
theorem d_M_times_103 : decode b_M_times 103 = .ok (.iadd, 1) := by decide +kernel
theorem d_M_times_104 : decode b_M_times 104 = .ok (.lload 6, 2) := by decide +kernel
theorem d_M_times_106 : decode b_M_times 106 = .ok (.l2i, 1) := by decide +kernel
theorem d_M_times_107 : decode b_M_times 107 = .ok (.iastore, 1) := by decide +kernel
theorem d_M_times_108 : decode b_M_times 108 = .ok (.iinc 5 1, 3) := by decide +kernel
theorem d_M_times_111 : decode b_M_times 111 = .ok (.goto (-85), 3) := by decide +kernel
theorem d_M_times_114 : decode b_M_times 114 = .ok (.aload 4, 2) := by decide +kernel
theorem d_M_times_116 : decode b_M_times 116 = .ok (.iload_n 1, 1) := by decide +kernel
theorem d_M_times_117 : decode b_M_times 117 = .ok (.iload_n 3, 1) := by decide +kernel
theorem d_M_times_118 : decode b_M_times 118 = .ok (.iadd, 1) := by decide +kernel
theorem d_M_times_119 : decode b_M_times 119 = .ok (.invokestatic 54, 3) := by decide +kernel
theorem d_M_times_122 : decode b_M_times 122 = .ok (.ireturn, 1) := by decide +kernel
theorem d_M_divided_0 : decode b_M_divided 0 = .ok (.aload_n 1, 1) := by decide +kernel
theorem d_M_divided_1 : decode b_M_divided 1 = .ok (.iload_n 2, 1) := by decide +kernel
theorem d_M_divided_2 : decode b_M_divided 2 = .ok (.aload_n 3, 1) := by decide +kernel
theorem d_M_divided_3 : decode b_M_divided 3 = .ok (.iload 4, 2) := by decide +kernel
theorem d_M_divided_5 : decode b_M_divided 5 = .ok (.invokestatic 60, 3) := by decide +kernel
theorem d_M_divided_8 : decode b_M_divided 8 = .ok (.ifCond .ge 10, 3) := by decide +kernel
theorem d_M_divided_11 : decode b_M_divided 11 = .ok (.aload_n 0, 1) := by decide +kernel
theorem d_M_divided_12 : decode b_M_divided 12 = .ok (.iconst 0, 1) := by decide +kernel
theorem d_M_divided_13 : decode b_M_divided 13 = .ok (.putfield 64, 3) := by decide +kernel
theorem d_M_divided_16 : decode b_M_divided 16 = .ok (.iload_n 2, 1) := by decide +kernel
theorem d_M_divided_17 : decode b_M_divided 17 = .ok (.ireturn, 1) := by decide +kernel
theorem d_M_divided_18 : decode b_M_divided 18 = .ok (.iload 4, 2) := by decide +kernel
theorem d_M_divided_20 : decode b_M_divided 20 = .ok (.iconst 1, 1) := by decide +kernel
theorem d_M_divided_21 : decode b_M_divided 21 = .ok (.if_icmp .ne 84, 3) := by decide +kernel
theorem d_M_divided_24 : decode b_M_divided 24 = .ok (.lconst 0, 1) := by decide +kernel
theorem d_M_divided_25 : decode b_M_divided 25 = .ok (.lstore 6, 2) := by decide +kernel
theorem d_M_divided_27 : decode b_M_divided 27 = .ok (.iload_n 2, 1) := by decide +kernel
theorem d_M_divided_28 : decode b_M_divided 28 = .ok (.iconst 1, 1) := by decide +kernel
theorem d_M_divided_29 : decode b_M_divided 29 = .ok (.isub, 1) := by decide +kernel
theorem d_M_divided_30 : decode b_M_divided 30 = .ok (.istore 8, 2) := by decide +kernel
theorem d_M_divided_32 : decode b_M_divided 32 = .ok (.iload 8, 2) := by decide +kernel
theorem d_M_divided_34 : decode b_M_divided 34 = .ok (.ifCond .lt 49, 3) := by decide +kernel
theorem d_M_divided_37 : decode b_M_divided 37 = .ok (.lload 6, 2) := by decide +kernel
theorem d_M_divided_39 : decode b_M_divided 39 = .ok (.bipush 16, 2) := by decide +kernel
theorem d_M_divided_41 : decode b_M_divided 41 = .ok (.lshl, 1) := by decide +kernel
theorem d_M_divided_42 : decode b_M_divided 42 = .ok (.aload_n 1, 1) := by decide +kernel
theorem d_M_divided_43 : decode b_M_divided 43 = .ok (.iload 8, 2) := by decide +kernel
theorem d_M_divided_45 : decode b_M_divided 45 = .ok (.iaload, 1) := by decide +kernel
theorem d_M_divided_46 : decode b_M_divided 46 = .ok (.i2l, 1) := by decide +kernel
theorem d_M_divided_47 : decode b_M_divided 47 = .ok (.lor, 1) := by decide +kernel
theorem d_M_divided_48 : decode b_M_divided 48 = .ok (.lstore 6, 2) := by decide +kernel
theorem d_M_divided_50 : decode b_M_divided 50 = .ok (.aload 5, 2) := by decide +kernel
theorem d_M_divided_52 : decode b_M_divided 52 = .ok (.iload 8, 2) := by decide +kernel
theorem d_M_divided_54 : decode b_M_divided 54 = .ok (.lload 6, 2) := by decide +kernel
theorem d_M_divided_56 : decode b_M_divided 56 = .ok (.aload_n 3, 1) := by decide +kernel
theorem d_M_divided_57 : decode b_M_divided 57 = .ok (.iconst 0, 1) := by decide +kernel
theorem d_M_divided_58 : decode b_M_divided 58 = .ok (.iaload, 1) := by decide +kernel
theorem d_M_divided_59 : decode b_M_divided 59 = .ok (.i2l, 1) := by decide +kernel
theorem d_M_divided_60 : decode b_M_divided 60 = .ok (.ldiv, 1) := by decide +kernel
theorem d_M_divided_61 : decode b_M_divided 61 = .ok (.l2i, 1) := by decide +kernel
theorem d_M_divided_62 : decode b_M_divided 62 = .ok (.iastore, 1) := by decide +kernel
theorem d_M_divided_63 : decode b_M_divided 63 = .ok (.lload 6, 2) := by decide +kernel
theorem d_M_divided_65 : decode b_M_divided 65 = .ok (.aload_n 3, 1) := by decide +kernel
theorem d_M_divided_66 : decode b_M_divided 66 = .ok (.iconst 0, 1) := by decide +kernel
theorem d_M_divided_67 : decode b_M_divided 67 = .ok (.iaload, 1) := by decide +kernel
theorem d_M_divided_68 : decode b_M_divided 68 = .ok (.i2l, 1) := by decide +kernel
theorem d_M_divided_69 : decode b_M_divided 69 = .ok (.lrem, 1) := by decide +kernel
theorem d_M_divided_70 : decode b_M_divided 70 = .ok (.lstore 6, 2) := by decide +kernel
theorem d_M_divided_72 : decode b_M_divided 72 = .ok (.aload_n 1, 1) := by decide +kernel
theorem d_M_divided_73 : decode b_M_divided 73 = .ok (.iload 8, 2) := by decide +kernel
theorem d_M_divided_75 : decode b_M_divided 75 = .ok (.iconst 0, 1) := by decide +kernel
theorem d_M_divided_76 : decode b_M_divided 76 = .ok (.iastore, 1) := by decide +kernel
theorem d_M_divided_77 : decode b_M_divided 77 = .ok (.iinc 8 (-1), 3) := by decide +kernel
theorem d_M_divided_80 : decode b_M_divided 80 = .ok (.goto (-48), 3) := by decide +kernel
theorem d_M_divided_83 : decode b_M_divided 83 = .ok (.aload_n 0, 1) := by decide +kernel
theorem d_M_divided_84 : decode b_M_divided 84 = .ok (.aload 5, 2) := by decide +kernel
theorem d_M_divided_86 : decode b_M_divided 86 = .ok (.iload_n 2, 1) := by decide +kernel
theorem d_M_divided_87 : decode b_M_divided 87 = .ok (.invokestatic 54, 3) := by decide +kernel
theorem d_M_divided_90 : decode b_M_divided 90 = .ok (.putfield 64, 3) := by decide +kernel
theorem d_M_divided_93 : decode b_M_divided 93 = .ok (.aload_n 1, 1) := by decide +kernel
theorem d_M_divided_94 : decode b_M_divided 94 = .ok (.iconst 0, 1) := by decide +kernel
theorem d_M_divided_95 : decode b_M_divided 95 = .ok (.lload 6, 2) := by decide +kernel
theorem d_M_divided_97 : decode b_M_divided 97 = .ok (.l2i, 1) := by decide +kernel
theorem d_M_divided_98 : decode b_M_divided 98 = .ok (.iastore, 1) := by decide +kernel
theorem d_M_divided_99 : decode b_M_divided 99 = .ok (.aload_n 1, 1) := by decide +kernel
theorem d_M_divided_100 : decode b_M_divided 100 = .ok (.iconst 1, 1) := by decide +kernel
theorem d_M_divided_101 : decode b_M_divided 101 = .ok (.invokestatic 54, 3) := by decide +kernel
theorem d_M_divided_104 : decode b_M_divided 104 = .ok (.ireturn, 1) := by decide +kernel
theorem d_M_divided_105 : decode b_M_divided 105 = .ok (.iconst 0, 1) := by decide +kernel
theorem d_M_divided_106 : decode b_M_divided 106 = .ok (.istore 6, 2) := by decide +kernel
theorem d_M_divided_108 : decode b_M_divided 108 = .ok (.aload_n 3, 1) := by decide +kernel
theorem d_M_divided_109 : decode b_M_divided 109 = .ok (.iload 4, 2) := by decide +kernel
theorem d_M_divided_111 : decode b_M_divided 111 = .ok (.iconst 1, 1) := by decide +kernel
theorem d_M_divided_112 : decode b_M_divided 112 = .ok (.isub, 1) := by decide +kernel
theorem d_M_divided_113 : decode b_M_divided 113 = .ok (.iaload, 1) := by decide +kernel
theorem d_M_divided_114 : decode b_M_divided 114 = .ok (.istore 7, 2) := by decide +kernel
theorem d_M_divided_116 : decode b_M_divided 116 = .ok (.iload 7, 2) := by decide +kernel
theorem d_M_divided_118 : decode b_M_divided 118 = .ok (.ldc 67, 2) := by decide +kernel
theorem d_M_divided_120 : decode b_M_divided 120 = .ok (.if_icmp .ge 15, 3) := by decide +kernel
theorem d_M_divided_123 : decode b_M_divided 123 = .ok (.iinc 6 1, 3) := by decide +kernel
theorem d_M_divided_126 : decode b_M_divided 126 = .ok (.iload 7, 2) := by decide +kernel
theorem d_M_divided_128 : decode b_M_divided 128 = .ok (.iconst 1, 1) := by decide +kernel
theorem d_M_divided_129 : decode b_M_divided 129 = .ok (.ishl, 1) := by decide +kernel
theorem d_M_divided_130 : decode b_M_divided 130 = .ok (.istore 7, 2) := by decide +kernel
theorem d_M_divided_132 : decode b_M_divided 132 = .ok (.goto (-16), 3) := by decide +kernel
theorem d_M_divided_135 : decode b_M_divided 135 = .ok (.iload 4, 2) := by decide +kernel
theorem d_M_divided_137 : decode b_M_divided 137 = .ok (.iconst 1, 1) := by decide +kernel
theorem d_M_divided_138 : decode b_M_divided 138 = .ok (.isub, 1) := by decide +kernel
theorem d_M_divided_139 : decode b_M_divided 139 = .ok (.istore 7, 2) := by decide +kernel
theorem d_M_divided_141 : decode b_M_divided 141 = .ok (.iload 7, 2) := by decide +kernel
theorem d_M_divided_143 : decode b_M_divided 143 = .ok (.ifCond .lt 48, 3) := by decide +kernel
theorem d_M_divided_146 : decode b_M_divided 146 = .ok (.aload_n 0, 1) := by decide +kernel
theorem d_M_divided_147 : decode b_M_divided 147 = .ok (.getfield 40, 3) := by decide +kernel
theorem d_M_divided_150 : decode b_M_divided 150 = .ok (.iload 7, 2) := by decide +kernel
theorem d_M_divided_152 : decode b_M_divided 152 = .ok (.aload_n 3, 1) := by decide +kernel
theorem d_M_divided_153 : decode b_M_divided 153 = .ok (.iload 7, 2) := by decide +kernel
theorem d_M_divided_155 : decode b_M_divided 155 = .ok (.iaload, 1) := by decide +kernel
theorem d_M_divided_156 : decode b_M_divided 156 = .ok (.iload 6, 2) := by decide +kernel
theorem d_M_divided_158 : decode b_M_divided 158 = .ok (.ishl, 1) := by decide +kernel
theorem d_M_divided_159 : decode b_M_divided 159 = .ok (.iload 7, 2) := by decide +kernel
theorem d_M_divided_161 : decode b_M_divided 161 = .ok (.ifCond .le 18, 3) := by decide +kernel
theorem d_M_divided_164 : decode b_M_divided 164 = .ok (.aload_n 3, 1) := by decide +kernel
theorem d_M_divided_165 : decode b_M_divided 165 = .ok (.iload 7, 2) := by decide +kernel
theorem d_M_divided_167 : decode b_M_divided 167 = .ok (.iconst 1, 1) := by decide +kernel
theorem d_M_divided_168 : decode b_M_divided 168 = .ok (.isub, 1) := by decide +kernel
theorem d_M_divided_169 : decode b_M_divided 169 = .ok (.iaload, 1) := by decide +kernel
theorem d_M_divided_170 : decode b_M_divided 170 = .ok (.bipush 16, 2) := by decide +kernel
theorem d_M_divided_172 : decode b_M_divided 172 = .ok (.iload 6, 2) := by decide +kernel
theorem d_M_divided_174 : decode b_M_divided 174 = .ok (.isub, 1) := by decide +kernel
theorem d_M_divided_175 : decode b_M_divided 175 = .ok (.ishr, 1) := by decide +kernel
theorem d_M_divided_176 : decode b_M_divided 176 = .ok (.goto 4, 3) := by decide +kernel
theorem d_M_divided_179 : decode b_M_divided 179 = .ok (.iconst 0, 1) := by decide +kernel
theorem d_M_divided_180 : decode b_M_divided 180 = .ok (.ior, 1) := by decide +kernel
theorem d_M_divided_181 : decode b_M_divided 181 = .ok (.ldc 53, 2) := by decide +kernel
theorem d_M_divided_183 : decode b_M_divided 183 = .ok (.iand, 1) := by decide +kernel
theorem d_M_divided_184 : decode b_M_divided 184 = .ok (.iastore, 1) := by decide +kernel
theorem d_M_divided_185 : decode b_M_divided 185 = .ok (.iinc 7 (-1), 3) := by decide +kernel
theorem d_M_divided_188 : decode b_M_divided 188 = .ok (.goto (-47), 3) := by decide +kernel
theorem d_M_divided_191 : decode b_M_divided 191 = .ok (.aload_n 1, 1) := by decide +kernel
theorem d_M_divided_192 : decode b_M_divided 192 = .ok (.iload_n 2, 1) := by decide +kernel
theorem d_M_divided_193 : decode b_M_divided 193 = .ok (.iconst 0, 1) := by decide +kernel
theorem d_M_divided_194 : decode b_M_divided 194 = .ok (.iastore, 1) := by decide +kernel
theorem d_M_divided_195 : decode b_M_divided 195 = .ok (.iload_n 2, 1) := by decide +kernel
theorem d_M_divided_196 : decode b_M_divided 196 = .ok (.istore 7, 2) := by decide +kernel
theorem d_M_divided_198 : decode b_M_divided 198 = .ok (.iload 7, 2) := by decide +kernel
theorem d_M_divided_200 : decode b_M_divided 200 = .ok (.ifCond .lt 45, 3) := by decide +kernel
theorem d_M_divided_203 : decode b_M_divided 203 = .ok (.aload_n 1, 1) := by decide +kernel
theorem d_M_divided_204 : decode b_M_divided 204 = .ok (.iload 7, 2) := by decide +kernel
theorem d_M_divided_206 : decode b_M_divided 206 = .ok (.aload_n 1, 1) := by decide +kernel
theorem d_M_divided_207 : decode b_M_divided 207 = .ok (.iload 7, 2) := by decide +kernel
theorem d_M_divided_209 : decode b_M_divided 209 = .ok (.iaload, 1) := by decide +kernel
theorem d_M_divided_210 : decode b_M_divided 210 = .ok (.iload 6, 2) := by decide +kernel
theorem d_M_divided_212 : decode b_M_divided 212 = .ok (.ishl, 1) := by decide +kernel
theorem d_M_divided_213 : decode b_M_divided 213 = .ok (.iload 7, 2) := by decide +kernel
theorem d_M_divided_215 : decode b_M_divided 215 = .ok (.ifCond .le 18, 3) := by decide +kernel
theorem d_M_divided_218 : decode b_M_divided 218 = .ok (.aload_n 1, 1) := by decide +kernel
theorem d_M_divided_219 : decode b_M_divided 219 = .ok (.iload 7, 2) := by decide +kernel
theorem d_M_divided_221 : decode b_M_divided 221 = .ok (.iconst 1, 1) := by decide +kernel
theorem d_M_divided_222 : decode b_M_divided 222 = .ok (.isub, 1) := by decide +kernel
theorem d_M_divided_223 : decode b_M_divided 223 = .ok (.iaload, 1) := by decide +kernel
theorem d_M_divided_224 : decode b_M_divided 224 = .ok (.bipush 16, 2) := by decide +kernel
theorem d_M_divided_226 : decode b_M_divided 226 = .ok (.iload 6, 2) := by decide +kernel
theorem d_M_divided_228 : decode b_M_divided 228 = .ok (.isub, 1) := by decide +kernel
theorem d_M_divided_229 : decode b_M_divided 229 = .ok (.ishr, 1) := by decide +kernel
theorem d_M_divided_230 : decode b_M_divided 230 = .ok (.goto 4, 3) := by decide +kernel
theorem d_M_divided_233 : decode b_M_divided 233 = .ok (.iconst 0, 1) := by decide +kernel
theorem d_M_divided_234 : decode b_M_divided 234 = .ok (.ior, 1) := by decide +kernel
theorem d_M_divided_235 : decode b_M_divided 235 = .ok (.ldc 53, 2) := by decide +kernel
theorem d_M_divided_237 : decode b_M_divided 237 = .ok (.iand, 1) := by decide +kernel
theorem d_M_divided_238 : decode b_M_divided 238 = .ok (.iastore, 1) := by decide +kernel
theorem d_M_divided_239 : decode b_M_divided 239 = .ok (.iinc 7 (-1), 3) := by decide +kernel
theorem d_M_divided_242 : decode b_M_divided 242 = .ok (.goto (-44), 3) := by decide +kernel
theorem d_M_divided_245 : decode b_M_divided 245 = .ok (.iload_n 2, 1) := by decide +kernel
theorem d_M_divided_246 : decode b_M_divided 246 = .ok (.iload 4, 2) := by decide +kernel
theorem d_M_divided_248 : decode b_M_divided 248 = .ok (.isub, 1) := by decide +kernel
theorem d_M_divided_249 : decode b_M_divided 249 = .ok (.istore 7, 2) := by decide +kernel
theorem d_M_divided_251 : decode b_M_divided 251 = .ok (.iload 7, 2) := by decide +kernel
theorem d_M_divided_253 : decode b_M_divided 253 = .ok (.ifCond .lt 329, 3) := by decide +kernel
theorem d_M_divided_256 : decode b_M_divided 256 = .ok (.aload_n 1, 1) := by decide +kernel
theorem d_M_divided_257 : decode b_M_divided 257 = .ok (.iload 7, 2) := by decide +kernel
theorem d_M_divided_259 : decode b_M_divided 259 = .ok (.iload 4, 2) := by decide +kernel
theorem d_M_divided_261 : decode b_M_divided 261 = .ok (.iadd, 1) := by decide +kernel
theorem d_M_divided_262 : decode b_M_divided 262 = .ok (.iaload, 1) := by decide +kernel
theorem d_M_divided_263 : decode b_M_divided 263 = .ok (.i2l, 1) := by decide +kernel
theorem d_M_divided_264 : decode b_M_divided 264 = .ok (.bipush 16, 2) := by decide +kernel
theorem d_M_divided_266 : decode b_M_divided 266 = .ok (.lshl, 1) := by decide +kernel
theorem d_M_divided_267 : decode b_M_divided 267 = .ok (.aload_n 1, 1) := by decide +kernel
theorem d_M_divided_268 : decode b_M_divided 268 = .ok (.iload 7, 2) := by decide +kernel
theorem d_M_divided_270 : decode b_M_divided 270 = .ok (.iload 4, 2) := by decide +kernel
theorem d_M_divided_272 : decode b_M_divided 272 = .ok (.iadd, 1) := by decide +kernel
theorem d_M_divided_273 : decode b_M_divided 273 = .ok (.iconst 1, 1) := by decide +kernel
theorem d_M_divided_274 : decode b_M_divided 274 = .ok (.isub, 1) := by decide +kernel
theorem d_M_divided_275 : decode b_M_divided 275 = .ok (.iaload, 1) := by decide +kernel
theorem d_M_divided_276 : decode b_M_divided 276 = .ok (.i2l, 1) := by decide +kernel
theorem d_M_divided_277 : decode b_M_divided 277 = .ok (.lor, 1) := by decide +kernel
theorem d_M_divided_278 : decode b_M_divided 278 = .ok (.lstore 8, 2) := by decide +kernel
theorem d_M_divided_280 : decode b_M_divided 280 = .ok (.lload 8, 2) := by decide +kernel
theorem d_M_divided_282 : decode b_M_divided 282 = .ok (.aload_n 0, 1) := by decide +kernel
theorem d_M_divided_283 : decode b_M_divided 283 = .ok (.getfield 40, 3) := by decide +kernel
theorem d_M_divided_286 : decode b_M_divided 286 = .ok (.iload 4, 2) := by decide +kernel
theorem d_M_divided_288 : decode b_M_divided 288 = .ok (.iconst 1, 1) := by decide +kernel
theorem d_M_divided_289 : decode b_M_divided 289 = .ok (.isub, 1) := by decide +kernel
theorem d_M_divided_290 : decode b_M_divided 290 = .ok (.iaload, 1) := by decide +kernel
theorem d_M_divided_291 : decode b_M_divided 291 = .ok (.i2l, 1) := by decide +kernel
theorem d_M_divided_292 : decode b_M_divided 292 = .ok (.ldiv, 1) := by decide +kernel
theorem d_M_divided_293 : decode b_M_divided 293 = .ok (.lstore 10, 2) := by decide +kernel
theorem d_M_divided_295 : decode b_M_divided 295 = .ok (.lload 8, 2) := by decide +kernel
theorem d_M_divided_297 : decode b_M_divided 297 = .ok (.aload_n 0, 1) := by decide +kernel
theorem d_M_divided_298 : decode b_M_divided 298 = .ok (.getfield 40, 3) := by decide +kernel
theorem d_M_divided_301 : decode b_M_divided 301 = .ok (.iload 4, 2) := by decide +kernel
theorem d_M_divided_303 : decode b_M_divided 303 = .ok (.iconst 1, 1) := by decide +kernel
theorem d_M_divided_304 : decode b_M_divided 304 = .ok (.isub, 1) := by decide +kernel
theorem d_M_divided_305 : decode b_M_divided 305 = .ok (.iaload, 1) := by decide +kernel
theorem d_M_divided_306 : decode b_M_divided 306 = .ok (.i2l, 1) := by decide +kernel
theorem d_M_divided_307 : decode b_M_divided 307 = .ok (.lrem, 1) := by decide +kernel
theorem d_M_divided_308 : decode b_M_divided 308 = .ok (.lstore 12, 2) := by decide +kernel
theorem d_M_divided_310 : decode b_M_divided 310 = .ok (.lload 10, 2) := by decide +kernel
theorem d_M_divided_312 : decode b_M_divided 312 = .ok (.ldc2_w 58, 3) := by decide +kernel
theorem d_M_divided_315 : decode b_M_divided 315 = .ok (.lcmp, 1) := by decide +kernel
theorem d_M_divided_316 : decode b_M_divided 316 = .ok (.ifCond .gt 36, 3) := by decide +kernel
theorem d_M_divided_319 : decode b_M_divided 319 = .ok (.lload 10, 2) := by decide +kernel
theorem d_M_divided_321 : decode b_M_divided 321 = .ok (.aload_n 0, 1) := by decide +kernel
theorem d_M_divided_322 : decode b_M_divided 322 = .ok (.getfield 40, 3) := by decide +kernel
theorem d_M_divided_325 : decode b_M_divided 325 = .ok (.iload 4, 2) := by decide +kernel
theorem d_M_divided_327 : decode b_M_divided 327 = .ok (.iconst 2, 1) := by decide +kernel
theorem d_M_divided_328 : decode b_M_divided 328 = .ok (.isub, 1) := by decide +kernel
theorem d_M_divided_329 : decode b_M_divided 329 = .ok (.iaload, 1) := by decide +kernel
theorem d_M_divided_330 : decode b_M_divided 330 = .ok (.i2l, 1) := by decide +kernel
theorem d_M_divided_331 : decode b_M_divided 331 = .ok (.lmul, 1) := by decide +kernel
theorem d_M_divided_332 : decode b_M_divided 332 = .ok (.lload 12, 2) := by decide +kernel
theorem d_M_divided_334 : decode b_M_divided 334 = .ok (.bipush 16, 2) := by decide +kernel
theorem d_M_divided_336 : decode b_M_divided 336 = .ok (.lshl, 1) := by decide +kernel
theorem d_M_divided_337 : decode b_M_divided 337 = .ok (.aload_n 1, 1) := by decide +kernel
