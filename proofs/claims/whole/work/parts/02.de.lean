theorem d_K_work_60 : decode b_K_work 60 = .ok (.aload 5, 2) := by decide +kernel
theorem d_K_work_62 : decode b_K_work 62 = .ok (.aload 6, 2) := by decide +kernel
theorem d_K_work_64 : decode b_K_work 64 = .ok (.aload 6, 2) := by decide +kernel
theorem d_K_work_66 : decode b_K_work 66 = .ok (.getfield 118, 3) := by decide +kernel
theorem d_K_work_69 : decode b_K_work 69 = .ok (.ifCond .ne 7, 3) := by decide +kernel
theorem d_K_work_72 : decode b_K_work 72 = .ok (.iconst 1, 1) := by decide +kernel
theorem d_K_work_73 : decode b_K_work 73 = .ok (.goto 4, 3) := by decide +kernel
theorem d_K_work_76 : decode b_K_work 76 = .ok (.iconst 0, 1) := by decide +kernel
theorem d_K_work_77 : decode b_K_work 77 = .ok (.invokevirtual 122, 3) := by decide +kernel
theorem d_K_work_80 : decode b_K_work 80 = .ok (.goto 14, 3) := by decide +kernel
theorem d_K_work_83 : decode b_K_work 83 = .ok (.aload_n 0, 1) := by decide +kernel
theorem d_K_work_84 : decode b_K_work 84 = .ok (.getfield 32, 3) := by decide +kernel
theorem d_K_work_87 : decode b_K_work 87 = .ok (.aload 5, 2) := by decide +kernel
theorem d_K_work_89 : decode b_K_work 89 = .ok (.aload 6, 2) := by decide +kernel
theorem d_K_work_91 : decode b_K_work 91 = .ok (.invokevirtual 126, 3) := by decide +kernel
theorem d_K_work_94 : decode b_K_work 94 = .ok (.aload_n 0, 1) := by decide +kernel
theorem d_K_work_95 : decode b_K_work 95 = .ok (.aload_n 0, 1) := by decide +kernel
theorem d_K_work_96 : decode b_K_work 96 = .ok (.getfield 32, 3) := by decide +kernel
theorem d_K_work_99 : decode b_K_work 99 = .ok (.iload_n 2, 1) := by decide +kernel
theorem d_K_work_100 : decode b_K_work 100 = .ok (.invokevirtual 93, 3) := by decide +kernel
theorem d_K_work_103 : decode b_K_work 103 = .ok (.aload_n 0, 1) := by decide +kernel
theorem d_K_work_104 : decode b_K_work 104 = .ok (.getfield 32, 3) := by decide +kernel
theorem d_K_work_107 : decode b_K_work 107 = .ok (.invokevirtual 130, 3) := by decide +kernel
theorem d_K_work_110 : decode b_K_work 110 = .ok (.ireturn, 1) := by decide +kernel
theorem d_K_divide_0 : decode b_K_divide 0 = .ok (.iload_n 2, 1) := by decide +kernel
theorem d_K_divide_1 : decode b_K_divide 1 = .ok (.iload 4, 2) := by decide +kernel
theorem d_K_divide_3 : decode b_K_divide 3 = .ok (.iload 5, 2) := by decide +kernel
theorem d_K_divide_5 : decode b_K_divide 5 = .ok (.invokestatic 114, 3) := by decide +kernel
theorem d_K_divide_8 : decode b_K_divide 8 = .ok (.iload_n 3, 1) := by decide +kernel
theorem d_K_divide_9 : decode b_K_divide 9 = .ok (.invokestatic 42, 3) := by decide +kernel
theorem d_K_divide_12 : decode b_K_divide 12 = .ok (.iload_n 2, 1) := by decide +kernel
theorem d_K_divide_13 : decode b_K_divide 13 = .ok (.iload_n 3, 1) := by decide +kernel
theorem d_K_divide_14 : decode b_K_divide 14 = .ok (.if_icmp .ne 13, 3) := by decide +kernel
theorem d_K_divide_17 : decode b_K_divide 17 = .ok (.new 57, 3) := by decide +kernel
theorem d_K_divide_20 : decode b_K_divide 20 = .ok (.dup, 1) := by decide +kernel
theorem d_K_divide_21 : decode b_K_divide 21 = .ok (.ldc 133, 2) := by decide +kernel
theorem d_K_divide_23 : decode b_K_divide 23 = .ok (.invokespecial 61, 3) := by decide +kernel
theorem d_K_divide_26 : decode b_K_divide 26 = .ok (.athrow, 1) := by decide +kernel
theorem d_K_divide_27 : decode b_K_divide 27 = .ok (.aload_n 0, 1) := by decide +kernel
theorem d_K_divide_28 : decode b_K_divide 28 = .ok (.getfield 11, 3) := by decide +kernel
theorem d_K_divide_31 : decode b_K_divide 31 = .ok (.iload 5, 2) := by decide +kernel
theorem d_K_divide_33 : decode b_K_divide 33 = .ok (.aaload, 1) := by decide +kernel
theorem d_K_divide_34 : decode b_K_divide 34 = .ok (.astore 6, 2) := by decide +kernel
theorem d_K_divide_36 : decode b_K_divide 36 = .ok (.aload 6, 2) := by decide +kernel
theorem d_K_divide_38 : decode b_K_divide 38 = .ok (.invokevirtual 130, 3) := by decide +kernel
theorem d_K_divide_41 : decode b_K_divide 41 = .ok (.ifCond .ne 13, 3) := by decide +kernel
theorem d_K_divide_44 : decode b_K_divide 44 = .ok (.new 135, 3) := by decide +kernel
theorem d_K_divide_47 : decode b_K_divide 47 = .ok (.dup, 1) := by decide +kernel
theorem d_K_divide_48 : decode b_K_divide 48 = .ok (.ldc 137, 2) := by decide +kernel
theorem d_K_divide_50 : decode b_K_divide 50 = .ok (.invokespecial 139, 3) := by decide +kernel
theorem d_K_divide_53 : decode b_K_divide 53 = .ok (.athrow, 1) := by decide +kernel
theorem d_K_divide_54 : decode b_K_divide 54 = .ok (.aload_n 0, 1) := by decide +kernel
theorem d_K_divide_55 : decode b_K_divide 55 = .ok (.getfield 28, 3) := by decide +kernel
theorem d_K_divide_58 : decode b_K_divide 58 = .ok (.aload_n 0, 1) := by decide +kernel
theorem d_K_divide_59 : decode b_K_divide 59 = .ok (.getfield 11, 3) := by decide +kernel
theorem d_K_divide_62 : decode b_K_divide 62 = .ok (.iload 4, 2) := by decide +kernel
theorem d_K_divide_64 : decode b_K_divide 64 = .ok (.aaload, 1) := by decide +kernel
theorem d_K_divide_65 : decode b_K_divide 65 = .ok (.aload 6, 2) := by decide +kernel
theorem d_K_divide_67 : decode b_K_divide 67 = .ok (.invokevirtual 140, 3) := by decide +kernel
theorem d_K_divide_70 : decode b_K_divide 70 = .ok (.iload_n 1, 1) := by decide +kernel
theorem d_K_divide_71 : decode b_K_divide 71 = .ok (.ifCond .eq 12, 3) := by decide +kernel
theorem d_K_divide_74 : decode b_K_divide 74 = .ok (.aload_n 0, 1) := by decide +kernel
theorem d_K_divide_75 : decode b_K_divide 75 = .ok (.getfield 28, 3) := by decide +kernel
theorem d_K_divide_78 : decode b_K_divide 78 = .ok (.aload 6, 2) := by decide +kernel
theorem d_K_divide_80 : decode b_K_divide 80 = .ok (.invokevirtual 143, 3) := by decide +kernel
theorem d_K_divide_83 : decode b_K_divide 83 = .ok (.aload_n 0, 1) := by decide +kernel
theorem d_K_divide_84 : decode b_K_divide 84 = .ok (.aload_n 0, 1) := by decide +kernel
theorem d_K_divide_85 : decode b_K_divide 85 = .ok (.getfield 28, 3) := by decide +kernel
theorem d_K_divide_88 : decode b_K_divide 88 = .ok (.getfield 146, 3) := by decide +kernel
theorem d_K_divide_91 : decode b_K_divide 91 = .ok (.iload_n 2, 1) := by decide +kernel
theorem d_K_divide_92 : decode b_K_divide 92 = .ok (.invokevirtual 93, 3) := by decide +kernel
theorem d_K_divide_95 : decode b_K_divide 95 = .ok (.aload_n 0, 1) := by decide +kernel
theorem d_K_divide_96 : decode b_K_divide 96 = .ok (.aload_n 0, 1) := by decide +kernel
theorem d_K_divide_97 : decode b_K_divide 97 = .ok (.getfield 28, 3) := by decide +kernel
theorem d_K_divide_100 : decode b_K_divide 100 = .ok (.getfield 149, 3) := by decide +kernel
theorem d_K_divide_103 : decode b_K_divide 103 = .ok (.iload_n 3, 1) := by decide +kernel
theorem d_K_divide_104 : decode b_K_divide 104 = .ok (.invokevirtual 93, 3) := by decide +kernel
theorem d_K_divide_107 : decode b_K_divide 107 = .ok (.aload_n 0, 1) := by decide +kernel
theorem d_K_divide_108 : decode b_K_divide 108 = .ok (.getfield 28, 3) := by decide +kernel
theorem d_K_divide_111 : decode b_K_divide 111 = .ok (.getfield 149, 3) := by decide +kernel
theorem d_K_divide_114 : decode b_K_divide 114 = .ok (.invokevirtual 130, 3) := by decide +kernel
theorem d_K_divide_117 : decode b_K_divide 117 = .ok (.ireturn, 1) := by decide +kernel
theorem d_K_shift_0 : decode b_K_shift 0 = .ok (.iload_n 1, 1) := by decide +kernel
theorem d_K_shift_1 : decode b_K_shift 1 = .ok (.invokestatic 42, 3) := by decide +kernel
theorem d_K_shift_4 : decode b_K_shift 4 = .ok (.iload_n 2, 1) := by decide +kernel
theorem d_K_shift_5 : decode b_K_shift 5 = .ok (.invokestatic 42, 3) := by decide +kernel
theorem d_K_shift_8 : decode b_K_shift 8 = .ok (.iload_n 3, 1) := by decide +kernel
theorem d_K_shift_9 : decode b_K_shift 9 = .ok (.sipush (-4000), 3) := by decide +kernel
theorem d_K_shift_12 : decode b_K_shift 12 = .ok (.if_icmp .lt 10, 3) := by decide +kernel
theorem d_K_shift_15 : decode b_K_shift 15 = .ok (.iload_n 3, 1) := by decide +kernel
theorem d_K_shift_16 : decode b_K_shift 16 = .ok (.sipush 4000, 3) := by decide +kernel
theorem d_K_shift_19 : decode b_K_shift 19 = .ok (.if_icmp .le 13, 3) := by decide +kernel
theorem d_K_shift_22 : decode b_K_shift 22 = .ok (.new 57, 3) := by decide +kernel
theorem d_K_shift_25 : decode b_K_shift 25 = .ok (.dup, 1) := by decide +kernel
theorem d_K_shift_26 : decode b_K_shift 26 = .ok (.ldc 152, 2) := by decide +kernel
theorem d_K_shift_28 : decode b_K_shift 28 = .ok (.invokespecial 61, 3) := by decide +kernel
theorem d_K_shift_31 : decode b_K_shift 31 = .ok (.athrow, 1) := by decide +kernel
theorem d_K_shift_32 : decode b_K_shift 32 = .ok (.aload_n 0, 1) := by decide +kernel
theorem d_K_shift_33 : decode b_K_shift 33 = .ok (.getfield 11, 3) := by decide +kernel
theorem d_K_shift_36 : decode b_K_shift 36 = .ok (.iload_n 2, 1) := by decide +kernel
theorem d_K_shift_37 : decode b_K_shift 37 = .ok (.aaload, 1) := by decide +kernel
theorem d_K_shift_38 : decode b_K_shift 38 = .ok (.astore 4, 2) := by decide +kernel
theorem d_K_shift_40 : decode b_K_shift 40 = .ok (.iload_n 3, 1) := by decide +kernel
theorem d_K_shift_41 : decode b_K_shift 41 = .ok (.ifCond .le 47, 3) := by decide +kernel
theorem d_K_shift_44 : decode b_K_shift 44 = .ok (.aload 4, 2) := by decide +kernel
theorem d_K_shift_46 : decode b_K_shift 46 = .ok (.invokevirtual 130, 3) := by decide +kernel
theorem d_K_shift_49 : decode b_K_shift 49 = .ok (.ifCond .eq 26, 3) := by decide +kernel
theorem d_K_shift_52 : decode b_K_shift 52 = .ok (.aload 4, 2) := by decide +kernel
theorem d_K_shift_54 : decode b_K_shift 54 = .ok (.invokevirtual 45, 3) := by decide +kernel
theorem d_K_shift_57 : decode b_K_shift 57 = .ok (.iload_n 3, 1) := by decide +kernel
theorem d_K_shift_58 : decode b_K_shift 58 = .ok (.iadd, 1) := by decide +kernel
theorem d_K_shift_59 : decode b_K_shift 59 = .ok (.sipush 2048, 3) := by decide +kernel
theorem d_K_shift_62 : decode b_K_shift 62 = .ok (.if_icmp .le 13, 3) := by decide +kernel
theorem d_K_shift_65 : decode b_K_shift 65 = .ok (.new 135, 3) := by decide +kernel
theorem d_K_shift_68 : decode b_K_shift 68 = .ok (.dup, 1) := by decide +kernel
theorem d_K_shift_69 : decode b_K_shift 69 = .ok (.ldc 154, 2) := by decide +kernel
theorem d_K_shift_71 : decode b_K_shift 71 = .ok (.invokespecial 139, 3) := by decide +kernel
theorem d_K_shift_74 : decode b_K_shift 74 = .ok (.athrow, 1) := by decide +kernel
theorem d_K_shift_75 : decode b_K_shift 75 = .ok (.aload_n 0, 1) := by decide +kernel
theorem d_K_shift_76 : decode b_K_shift 76 = .ok (.getfield 32, 3) := by decide +kernel
theorem d_K_shift_79 : decode b_K_shift 79 = .ok (.aload 4, 2) := by decide +kernel
theorem d_K_shift_81 : decode b_K_shift 81 = .ok (.iload_n 3, 1) := by decide +kernel
theorem d_K_shift_82 : decode b_K_shift 82 = .ok (.invokevirtual 156, 3) := by decide +kernel
theorem d_K_shift_85 : decode b_K_shift 85 = .ok (.goto 14, 3) := by decide +kernel
theorem d_K_shift_88 : decode b_K_shift 88 = .ok (.aload_n 0, 1) := by decide +kernel
theorem d_K_shift_89 : decode b_K_shift 89 = .ok (.getfield 32, 3) := by decide +kernel
theorem d_K_shift_92 : decode b_K_shift 92 = .ok (.aload 4, 2) := by decide +kernel
theorem d_K_shift_94 : decode b_K_shift 94 = .ok (.iload_n 3, 1) := by decide +kernel
theorem d_K_shift_95 : decode b_K_shift 95 = .ok (.ineg, 1) := by decide +kernel
theorem d_K_shift_96 : decode b_K_shift 96 = .ok (.invokevirtual 159, 3) := by decide +kernel
theorem d_K_shift_99 : decode b_K_shift 99 = .ok (.aload_n 0, 1) := by decide +kernel
theorem d_K_shift_100 : decode b_K_shift 100 = .ok (.aload_n 0, 1) := by decide +kernel
theorem d_K_shift_101 : decode b_K_shift 101 = .ok (.getfield 32, 3) := by decide +kernel
theorem d_K_shift_104 : decode b_K_shift 104 = .ok (.iload_n 1, 1) := by decide +kernel
theorem d_K_shift_105 : decode b_K_shift 105 = .ok (.invokevirtual 93, 3) := by decide +kernel
theorem d_K_shift_108 : decode b_K_shift 108 = .ok (.aload_n 0, 1) := by decide +kernel
theorem d_K_shift_109 : decode b_K_shift 109 = .ok (.getfield 32, 3) := by decide +kernel
theorem d_K_shift_112 : decode b_K_shift 112 = .ok (.invokevirtual 45, 3) := by decide +kernel
theorem d_K_shift_115 : decode b_K_shift 115 = .ok (.ireturn, 1) := by decide +kernel
theorem d_K_bits_0 : decode b_K_bits 0 = .ok (.iload_n 1, 1) := by decide +kernel
theorem d_K_bits_1 : decode b_K_bits 1 = .ok (.invokestatic 111, 3) := by decide +kernel
theorem d_K_bits_4 : decode b_K_bits 4 = .ok (.iload_n 2, 1) := by decide +kernel
theorem d_K_bits_5 : decode b_K_bits 5 = .ok (.iload_n 3, 1) := by decide +kernel
theorem d_K_bits_6 : decode b_K_bits 6 = .ok (.iload 4, 2) := by decide +kernel
theorem d_K_bits_8 : decode b_K_bits 8 = .ok (.invokestatic 114, 3) := by decide +kernel
theorem d_K_bits_11 : decode b_K_bits 11 = .ok (.aload_n 0, 1) := by decide +kernel
theorem d_K_bits_12 : decode b_K_bits 12 = .ok (.getfield 32, 3) := by decide +kernel
theorem d_K_bits_15 : decode b_K_bits 15 = .ok (.iload_n 1, 1) := by decide +kernel
theorem d_K_bits_16 : decode b_K_bits 16 = .ok (.aload_n 0, 1) := by decide +kernel
theorem d_K_bits_17 : decode b_K_bits 17 = .ok (.getfield 11, 3) := by decide +kernel
theorem d_K_bits_20 : decode b_K_bits 20 = .ok (.iload_n 3, 1) := by decide +kernel
theorem d_K_bits_21 : decode b_K_bits 21 = .ok (.aaload, 1) := by decide +kernel
theorem d_K_bits_22 : decode b_K_bits 22 = .ok (.aload_n 0, 1) := by decide +kernel
theorem d_K_bits_23 : decode b_K_bits 23 = .ok (.getfield 11, 3) := by decide +kernel
theorem d_K_bits_26 : decode b_K_bits 26 = .ok (.iload 4, 2) := by decide +kernel
theorem d_K_bits_28 : decode b_K_bits 28 = .ok (.aaload, 1) := by decide +kernel
theorem d_K_bits_29 : decode b_K_bits 29 = .ok (.invokevirtual 162, 3) := by decide +kernel
theorem d_K_bits_32 : decode b_K_bits 32 = .ok (.aload_n 0, 1) := by decide +kernel
theorem d_K_bits_33 : decode b_K_bits 33 = .ok (.aload_n 0, 1) := by decide +kernel
theorem d_K_bits_34 : decode b_K_bits 34 = .ok (.getfield 32, 3) := by decide +kernel
theorem d_K_bits_37 : decode b_K_bits 37 = .ok (.iload_n 2, 1) := by decide +kernel
theorem d_K_bits_38 : decode b_K_bits 38 = .ok (.invokevirtual 93, 3) := by decide +kernel
theorem d_K_bits_41 : decode b_K_bits 41 = .ok (.aload_n 0, 1) := by decide +kernel
theorem d_K_bits_42 : decode b_K_bits 42 = .ok (.getfield 32, 3) := by decide +kernel
theorem d_K_bits_45 : decode b_K_bits 45 = .ok (.invokevirtual 130, 3) := by decide +kernel
theorem d_K_bits_48 : decode b_K_bits 48 = .ok (.ireturn, 1) := by decide +kernel
theorem d_K_power_0 : decode b_K_power 0 = .ok (.iload_n 1, 1) := by decide +kernel
theorem d_K_power_1 : decode b_K_power 1 = .ok (.invokestatic 42, 3) := by decide +kernel
theorem d_K_power_4 : decode b_K_power 4 = .ok (.iload_n 2, 1) := by decide +kernel
theorem d_K_power_5 : decode b_K_power 5 = .ok (.invokestatic 42, 3) := by decide +kernel
theorem d_K_power_8 : decode b_K_power 8 = .ok (.iload_n 3, 1) := by decide +kernel
theorem d_K_power_9 : decode b_K_power 9 = .ok (.ifCond .ge 13, 3) := by decide +kernel
theorem d_K_power_12 : decode b_K_power 12 = .ok (.new 57, 3) := by decide +kernel
theorem d_K_power_15 : decode b_K_power 15 = .ok (.dup, 1) := by decide +kernel
theorem d_K_power_16 : decode b_K_power 16 = .ok (.ldc 166, 2) := by decide +kernel
theorem d_K_power_18 : decode b_K_power 18 = .ok (.invokespecial 61, 3) := by decide +kernel
theorem d_K_power_21 : decode b_K_power 21 = .ok (.athrow, 1) := by decide +kernel
theorem d_K_power_22 : decode b_K_power 22 = .ok (.aload_n 0, 1) := by decide +kernel
theorem d_K_power_23 : decode b_K_power 23 = .ok (.getfield 32, 3) := by decide +kernel
theorem d_K_power_26 : decode b_K_power 26 = .ok (.lconst 1, 1) := by decide +kernel
theorem d_K_power_27 : decode b_K_power 27 = .ok (.invokevirtual 49, 3) := by decide +kernel
theorem d_K_power_30 : decode b_K_power 30 = .ok (.bipush 30, 2) := by decide +kernel
theorem d_K_power_32 : decode b_K_power 32 = .ok (.istore 4, 2) := by decide +kernel
theorem d_K_power_34 : decode b_K_power 34 = .ok (.iload 4, 2) := by decide +kernel
theorem d_K_power_36 : decode b_K_power 36 = .ok (.ifCond .lt 37, 3) := by decide +kernel
theorem d_K_power_39 : decode b_K_power 39 = .ok (.aload_n 0, 1) := by decide +kernel
theorem d_K_power_40 : decode b_K_power 40 = .ok (.aload_n 0, 1) := by decide +kernel
theorem d_K_power_41 : decode b_K_power 41 = .ok (.getfield 32, 3) := by decide +kernel
theorem d_K_power_44 : decode b_K_power 44 = .ok (.invokevirtual 168, 3) := by decide +kernel
theorem d_K_power_47 : decode b_K_power 47 = .ok (.iload_n 3, 1) := by decide +kernel
theorem d_K_power_48 : decode b_K_power 48 = .ok (.iload 4, 2) := by decide +kernel
theorem d_K_power_50 : decode b_K_power 50 = .ok (.iushr, 1) := by decide +kernel
theorem d_K_power_51 : decode b_K_power 51 = .ok (.iconst 1, 1) := by decide +kernel
theorem d_K_power_52 : decode b_K_power 52 = .ok (.iand, 1) := by decide +kernel
theorem d_K_power_53 : decode b_K_power 53 = .ok (.iconst 1, 1) := by decide +kernel
theorem d_K_power_54 : decode b_K_power 54 = .ok (.if_icmp .ne 13, 3) := by decide +kernel
theorem d_K_power_57 : decode b_K_power 57 = .ok (.aload_n 0, 1) := by decide +kernel
theorem d_K_power_58 : decode b_K_power 58 = .ok (.aload_n 0, 1) := by decide +kernel
theorem d_K_power_59 : decode b_K_power 59 = .ok (.getfield 11, 3) := by decide +kernel
theorem d_K_power_62 : decode b_K_power 62 = .ok (.iload_n 2, 1) := by decide +kernel
theorem d_K_power_63 : decode b_K_power 63 = .ok (.aaload, 1) := by decide +kernel
theorem d_K_power_64 : decode b_K_power 64 = .ok (.invokevirtual 168, 3) := by decide +kernel
theorem d_K_power_67 : decode b_K_power 67 = .ok (.iinc 4 (-1), 3) := by decide +kernel
theorem d_K_power_70 : decode b_K_power 70 = .ok (.goto (-36), 3) := by decide +kernel
theorem d_K_power_73 : decode b_K_power 73 = .ok (.aload_n 0, 1) := by decide +kernel
theorem d_K_power_74 : decode b_K_power 74 = .ok (.aload_n 0, 1) := by decide +kernel
theorem d_K_power_75 : decode b_K_power 75 = .ok (.getfield 32, 3) := by decide +kernel
theorem d_K_power_78 : decode b_K_power 78 = .ok (.iload_n 1, 1) := by decide +kernel
theorem d_K_power_79 : decode b_K_power 79 = .ok (.invokevirtual 93, 3) := by decide +kernel
theorem d_K_power_82 : decode b_K_power 82 = .ok (.aload_n 0, 1) := by decide +kernel
theorem d_K_power_83 : decode b_K_power 83 = .ok (.getfield 32, 3) := by decide +kernel
theorem d_K_power_86 : decode b_K_power 86 = .ok (.invokevirtual 45, 3) := by decide +kernel
theorem d_K_power_89 : decode b_K_power 89 = .ok (.ireturn, 1) := by decide +kernel
theorem d_K_residue_0 : decode b_K_residue 0 = .ok (.iload_n 1, 1) := by decide +kernel
theorem d_K_residue_1 : decode b_K_residue 1 = .ok (.iload_n 2, 1) := by decide +kernel
theorem d_K_residue_2 : decode b_K_residue 2 = .ok (.iload_n 3, 1) := by decide +kernel
theorem d_K_residue_3 : decode b_K_residue 3 = .ok (.invokestatic 114, 3) := by decide +kernel
theorem d_K_residue_6 : decode b_K_residue 6 = .ok (.iload 4, 2) := by decide +kernel
theorem d_K_residue_8 : decode b_K_residue 8 = .ok (.invokestatic 42, 3) := by decide +kernel
theorem d_K_residue_11 : decode b_K_residue 11 = .ok (.aload_n 0, 1) := by decide +kernel
theorem d_K_residue_12 : decode b_K_residue 12 = .ok (.getfield 11, 3) := by decide +kernel
theorem d_K_residue_15 : decode b_K_residue 15 = .ok (.iload_n 3, 1) := by decide +kernel
theorem d_K_residue_16 : decode b_K_residue 16 = .ok (.aaload, 1) := by decide +kernel
theorem d_K_residue_17 : decode b_K_residue 17 = .ok (.invokevirtual 130, 3) := by decide +kernel
theorem d_K_residue_20 : decode b_K_residue 20 = .ok (.ifCond .ge 13, 3) := by decide +kernel
theorem d_K_residue_23 : decode b_K_residue 23 = .ok (.new 57, 3) := by decide +kernel
theorem d_K_residue_26 : decode b_K_residue 26 = .ok (.dup, 1) := by decide +kernel
theorem d_K_residue_27 : decode b_K_residue 27 = .ok (.ldc 166, 2) := by decide +kernel
theorem d_K_residue_29 : decode b_K_residue 29 = .ok (.invokespecial 61, 3) := by decide +kernel
theorem d_K_residue_32 : decode b_K_residue 32 = .ok (.athrow, 1) := by decide +kernel
theorem d_K_residue_33 : decode b_K_residue 33 = .ok (.aload_n 0, 1) := by decide +kernel
theorem d_K_residue_34 : decode b_K_residue 34 = .ok (.getfield 11, 3) := by decide +kernel
theorem d_K_residue_37 : decode b_K_residue 37 = .ok (.iload 4, 2) := by decide +kernel
theorem d_K_residue_39 : decode b_K_residue 39 = .ok (.aaload, 1) := by decide +kernel
theorem d_K_residue_40 : decode b_K_residue 40 = .ok (.invokevirtual 130, 3) := by decide +kernel
theorem d_K_residue_43 : decode b_K_residue 43 = .ok (.ifCond .ne 13, 3) := by decide +kernel
theorem d_K_residue_46 : decode b_K_residue 46 = .ok (.new 135, 3) := by decide +kernel
theorem d_K_residue_49 : decode b_K_residue 49 = .ok (.dup, 1) := by decide +kernel
theorem d_K_residue_50 : decode b_K_residue 50 = .ok (.ldc 137, 2) := by decide +kernel
theorem d_K_residue_52 : decode b_K_residue 52 = .ok (.invokespecial 139, 3) := by decide +kernel
theorem d_K_residue_55 : decode b_K_residue 55 = .ok (.athrow, 1) := by decide +kernel
theorem d_K_residue_56 : decode b_K_residue 56 = .ok (.aload_n 0, 1) := by decide +kernel
theorem d_K_residue_57 : decode b_K_residue 57 = .ok (.aload_n 0, 1) := by decide +kernel
theorem d_K_residue_58 : decode b_K_residue 58 = .ok (.getfield 11, 3) := by decide +kernel
theorem d_K_residue_61 : decode b_K_residue 61 = .ok (.iload_n 2, 1) := by decide +kernel
theorem d_K_residue_62 : decode b_K_residue 62 = .ok (.aaload, 1) := by decide +kernel
theorem d_K_residue_63 : decode b_K_residue 63 = .ok (.aload_n 0, 1) := by decide +kernel
theorem d_K_residue_64 : decode b_K_residue 64 = .ok (.getfield 11, 3) := by decide +kernel
theorem d_K_residue_67 : decode b_K_residue 67 = .ok (.iload_n 3, 1) := by decide +kernel
theorem d_K_residue_68 : decode b_K_residue 68 = .ok (.aaload, 1) := by decide +kernel
theorem d_K_residue_69 : decode b_K_residue 69 = .ok (.aload_n 0, 1) := by decide +kernel
theorem d_K_residue_70 : decode b_K_residue 70 = .ok (.getfield 11, 3) := by decide +kernel
theorem d_K_residue_73 : decode b_K_residue 73 = .ok (.iload 4, 2) := by decide +kernel
theorem d_K_residue_75 : decode b_K_residue 75 = .ok (.aaload, 1) := by decide +kernel
theorem d_K_residue_76 : decode b_K_residue 76 = .ok (.invokevirtual 171, 3) := by decide +kernel
theorem d_K_residue_79 : decode b_K_residue 79 = .ok (.aload_n 0, 1) := by decide +kernel
theorem d_K_residue_80 : decode b_K_residue 80 = .ok (.getfield 32, 3) := by decide +kernel
theorem d_K_residue_83 : decode b_K_residue 83 = .ok (.aload_n 0, 1) := by decide +kernel
theorem d_K_residue_84 : decode b_K_residue 84 = .ok (.getfield 11, 3) := by decide +kernel
theorem d_K_residue_87 : decode b_K_residue 87 = .ok (.iload_n 2, 1) := by decide +kernel
theorem d_K_residue_88 : decode b_K_residue 88 = .ok (.aaload, 1) := by decide +kernel
theorem d_K_residue_89 : decode b_K_residue 89 = .ok (.getfield 118, 3) := by decide +kernel
theorem d_K_residue_92 : decode b_K_residue 92 = .ok (.ifCond .eq 20, 3) := by decide +kernel
theorem d_K_residue_95 : decode b_K_residue 95 = .ok (.aload_n 0, 1) := by decide +kernel
theorem d_K_residue_96 : decode b_K_residue 96 = .ok (.getfield 11, 3) := by decide +kernel
theorem d_K_residue_99 : decode b_K_residue 99 = .ok (.iload_n 3, 1) := by decide +kernel
theorem d_K_residue_100 : decode b_K_residue 100 = .ok (.aaload, 1) := by decide +kernel
theorem d_K_residue_101 : decode b_K_residue 101 = .ok (.iconst 0, 1) := by decide +kernel
theorem d_K_residue_102 : decode b_K_residue 102 = .ok (.invokevirtual 175, 3) := by decide +kernel
theorem d_K_residue_105 : decode b_K_residue 105 = .ok (.ifCond .eq 7, 3) := by decide +kernel
theorem d_K_residue_108 : decode b_K_residue 108 = .ok (.iconst 1, 1) := by decide +kernel
theorem d_K_residue_109 : decode b_K_residue 109 = .ok (.goto 4, 3) := by decide +kernel
theorem d_K_residue_112 : decode b_K_residue 112 = .ok (.iconst 0, 1) := by decide +kernel
theorem d_K_residue_113 : decode b_K_residue 113 = .ok (.invokevirtual 178, 3) := by decide +kernel
theorem d_K_residue_116 : decode b_K_residue 116 = .ok (.aload_n 0, 1) := by decide +kernel
theorem d_K_residue_117 : decode b_K_residue 117 = .ok (.getfield 32, 3) := by decide +kernel
theorem d_K_residue_120 : decode b_K_residue 120 = .ok (.invokevirtual 130, 3) := by decide +kernel
theorem d_K_residue_123 : decode b_K_residue 123 = .ok (.aload_n 0, 1) := by decide +kernel
theorem d_K_residue_124 : decode b_K_residue 124 = .ok (.getfield 11, 3) := by decide +kernel
theorem d_K_residue_127 : decode b_K_residue 127 = .ok (.iload 4, 2) := by decide +kernel
theorem d_K_residue_129 : decode b_K_residue 129 = .ok (.aaload, 1) := by decide +kernel
theorem d_K_residue_130 : decode b_K_residue 130 = .ok (.invokevirtual 130, 3) := by decide +kernel
theorem d_K_residue_133 : decode b_K_residue 133 = .ok (.imul, 1) := by decide +kernel
theorem d_K_residue_134 : decode b_K_residue 134 = .ok (.ifCond .ge 31, 3) := by decide +kernel
theorem d_K_residue_137 : decode b_K_residue 137 = .ok (.aload_n 0, 1) := by decide +kernel
theorem d_K_residue_138 : decode b_K_residue 138 = .ok (.getfield 32, 3) := by decide +kernel
theorem d_K_residue_141 : decode b_K_residue 141 = .ok (.aload_n 0, 1) := by decide +kernel
theorem d_K_residue_142 : decode b_K_residue 142 = .ok (.getfield 32, 3) := by decide +kernel
theorem d_K_residue_145 : decode b_K_residue 145 = .ok (.aload_n 0, 1) := by decide +kernel
theorem d_K_residue_146 : decode b_K_residue 146 = .ok (.getfield 11, 3) := by decide +kernel
theorem d_K_residue_149 : decode b_K_residue 149 = .ok (.iload 4, 2) := by decide +kernel
theorem d_K_residue_151 : decode b_K_residue 151 = .ok (.aaload, 1) := by decide +kernel
theorem d_K_residue_152 : decode b_K_residue 152 = .ok (.aload_n 0, 1) := by decide +kernel
theorem d_K_residue_153 : decode b_K_residue 153 = .ok (.getfield 11, 3) := by decide +kernel
theorem d_K_residue_156 : decode b_K_residue 156 = .ok (.iload 4, 2) := by decide +kernel
theorem d_K_residue_158 : decode b_K_residue 158 = .ok (.aaload, 1) := by decide +kernel
theorem d_K_residue_159 : decode b_K_residue 159 = .ok (.getfield 118, 3) := by decide +kernel
theorem d_K_residue_162 : decode b_K_residue 162 = .ok (.invokevirtual 122, 3) := by decide +kernel
theorem d_K_residue_165 : decode b_K_residue 165 = .ok (.aload_n 0, 1) := by decide +kernel
theorem d_K_residue_166 : decode b_K_residue 166 = .ok (.aload_n 0, 1) := by decide +kernel
theorem d_K_residue_167 : decode b_K_residue 167 = .ok (.getfield 32, 3) := by decide +kernel
theorem d_K_residue_170 : decode b_K_residue 170 = .ok (.iload_n 1, 1) := by decide +kernel
theorem d_K_residue_171 : decode b_K_residue 171 = .ok (.invokevirtual 93, 3) := by decide +kernel
theorem d_K_residue_174 : decode b_K_residue 174 = .ok (.aload_n 0, 1) := by decide +kernel
theorem d_K_residue_175 : decode b_K_residue 175 = .ok (.getfield 32, 3) := by decide +kernel
theorem d_K_residue_178 : decode b_K_residue 178 = .ok (.invokevirtual 130, 3) := by decide +kernel
theorem d_K_residue_181 : decode b_K_residue 181 = .ok (.ireturn, 1) := by decide +kernel
theorem d_K_compare_0 : decode b_K_compare 0 = .ok (.iload_n 1, 1) := by decide +kernel
theorem d_K_compare_1 : decode b_K_compare 1 = .ok (.invokestatic 42, 3) := by decide +kernel
theorem d_K_compare_4 : decode b_K_compare 4 = .ok (.iload_n 2, 1) := by decide +kernel
theorem d_K_compare_5 : decode b_K_compare 5 = .ok (.invokestatic 42, 3) := by decide +kernel
theorem d_K_compare_8 : decode b_K_compare 8 = .ok (.aload_n 0, 1) := by decide +kernel
theorem d_K_compare_9 : decode b_K_compare 9 = .ok (.getfield 11, 3) := by decide +kernel
theorem d_K_compare_12 : decode b_K_compare 12 = .ok (.iload_n 1, 1) := by decide +kernel
theorem d_K_compare_13 : decode b_K_compare 13 = .ok (.aaload, 1) := by decide +kernel
theorem d_K_compare_14 : decode b_K_compare 14 = .ok (.aload_n 0, 1) := by decide +kernel
theorem d_K_compare_15 : decode b_K_compare 15 = .ok (.getfield 11, 3) := by decide +kernel
theorem d_K_compare_18 : decode b_K_compare 18 = .ok (.iload_n 2, 1) := by decide +kernel
theorem d_K_compare_19 : decode b_K_compare 19 = .ok (.aaload, 1) := by decide +kernel
theorem d_K_compare_20 : decode b_K_compare 20 = .ok (.invokevirtual 182, 3) := by decide +kernel
theorem d_K_compare_23 : decode b_K_compare 23 = .ok (.ireturn, 1) := by decide +kernel
theorem d_K_small_0 : decode b_K_small 0 = .ok (.iload_n 1, 1) := by decide +kernel
theorem d_K_small_1 : decode b_K_small 1 = .ok (.invokestatic 42, 3) := by decide +kernel
theorem d_K_small_4 : decode b_K_small 4 = .ok (.aload_n 0, 1) := by decide +kernel
theorem d_K_small_5 : decode b_K_small 5 = .ok (.getfield 11, 3) := by decide +kernel
theorem d_K_small_8 : decode b_K_small 8 = .ok (.iload_n 1, 1) := by decide +kernel
theorem d_K_small_9 : decode b_K_small 9 = .ok (.aaload, 1) := by decide +kernel
theorem d_K_small_10 : decode b_K_small 10 = .ok (.invokevirtual 186, 3) := by decide +kernel
theorem d_K_small_13 : decode b_K_small 13 = .ok (.ifCond .ne 13, 3) := by decide +kernel
theorem d_K_small_16 : decode b_K_small 16 = .ok (.new 135, 3) := by decide +kernel
theorem d_K_small_19 : decode b_K_small 19 = .ok (.dup, 1) := by decide +kernel
theorem d_K_small_20 : decode b_K_small 20 = .ok (.ldc 190, 2) := by decide +kernel
theorem d_K_small_22 : decode b_K_small 22 = .ok (.invokespecial 139, 3) := by decide +kernel
theorem d_K_small_25 : decode b_K_small 25 = .ok (.athrow, 1) := by decide +kernel
theorem d_K_small_26 : decode b_K_small 26 = .ok (.aload_n 0, 1) := by decide +kernel
theorem d_K_small_27 : decode b_K_small 27 = .ok (.getfield 11, 3) := by decide +kernel
theorem d_K_small_30 : decode b_K_small 30 = .ok (.iload_n 1, 1) := by decide +kernel
theorem d_K_small_31 : decode b_K_small 31 = .ok (.aaload, 1) := by decide +kernel
theorem d_K_small_32 : decode b_K_small 32 = .ok (.invokevirtual 192, 3) := by decide +kernel
theorem d_K_small_35 : decode b_K_small 35 = .ok (.lreturn, 1) := by decide +kernel
theorem d_K_low_0 : decode b_K_low 0 = .ok (.iload_n 1, 1) := by decide +kernel
theorem d_K_low_1 : decode b_K_low 1 = .ok (.invokestatic 42, 3) := by decide +kernel
theorem d_K_low_4 : decode b_K_low 4 = .ok (.aload_n 0, 1) := by decide +kernel
theorem d_K_low_5 : decode b_K_low 5 = .ok (.getfield 11, 3) := by decide +kernel
theorem d_K_low_8 : decode b_K_low 8 = .ok (.iload_n 1, 1) := by decide +kernel
theorem d_K_low_9 : decode b_K_low 9 = .ok (.aaload, 1) := by decide +kernel
theorem d_K_low_10 : decode b_K_low 10 = .ok (.invokevirtual 192, 3) := by decide +kernel
theorem d_K_low_13 : decode b_K_low 13 = .ok (.lreturn, 1) := by decide +kernel
theorem d_K_folded_0 : decode b_K_folded 0 = .ok (.iload_n 1, 1) := by decide +kernel
theorem d_K_folded_1 : decode b_K_folded 1 = .ok (.invokestatic 42, 3) := by decide +kernel
theorem d_K_folded_4 : decode b_K_folded 4 = .ok (.aload_n 0, 1) := by decide +kernel
theorem d_K_folded_5 : decode b_K_folded 5 = .ok (.getfield 11, 3) := by decide +kernel
theorem d_K_folded_8 : decode b_K_folded 8 = .ok (.iload_n 1, 1) := by decide +kernel
theorem d_K_folded_9 : decode b_K_folded 9 = .ok (.aaload, 1) := by decide +kernel
theorem d_K_folded_10 : decode b_K_folded 10 = .ok (.invokevirtual 196, 3) := by decide +kernel
theorem d_K_folded_13 : decode b_K_folded 13 = .ok (.lreturn, 1) := by decide +kernel
theorem d_K_size_0 : decode b_K_size 0 = .ok (.iload_n 1, 1) := by decide +kernel
theorem d_K_size_1 : decode b_K_size 1 = .ok (.invokestatic 42, 3) := by decide +kernel
theorem d_K_size_4 : decode b_K_size 4 = .ok (.aload_n 0, 1) := by decide +kernel
theorem d_K_size_5 : decode b_K_size 5 = .ok (.getfield 11, 3) := by decide +kernel
theorem d_K_size_8 : decode b_K_size 8 = .ok (.iload_n 1, 1) := by decide +kernel
theorem d_K_size_9 : decode b_K_size 9 = .ok (.aaload, 1) := by decide +kernel
theorem d_K_size_10 : decode b_K_size 10 = .ok (.invokevirtual 45, 3) := by decide +kernel
theorem d_K_size_13 : decode b_K_size 13 = .ok (.ireturn, 1) := by decide +kernel
theorem d_K_isRegister_0 : decode b_K_isRegister 0 = .ok (.iload_n 0, 1) := by decide +kernel
theorem d_K_isRegister_1 : decode b_K_isRegister 1 = .ok (.ifCond .lt 13, 3) := by decide +kernel
theorem d_K_isRegister_4 : decode b_K_isRegister 4 = .ok (.iload_n 0, 1) := by decide +kernel
theorem d_K_isRegister_5 : decode b_K_isRegister 5 = .ok (.bipush 16, 2) := by decide +kernel
theorem d_K_isRegister_7 : decode b_K_isRegister 7 = .ok (.if_icmp .ge 7, 3) := by decide +kernel
theorem d_K_isRegister_10 : decode b_K_isRegister 10 = .ok (.iconst 1, 1) := by decide +kernel
theorem d_K_isRegister_11 : decode b_K_isRegister 11 = .ok (.goto 4, 3) := by decide +kernel
theorem d_K_isRegister_14 : decode b_K_isRegister 14 = .ok (.iconst 0, 1) := by decide +kernel
theorem d_K_isRegister_15 : decode b_K_isRegister 15 = .ok (.ireturn, 1) := by decide +kernel
theorem d_K_isBase_0 : decode b_K_isBase 0 = .ok (.iload_n 0, 1) := by decide +kernel
theorem d_K_isBase_1 : decode b_K_isBase 1 = .ok (.iconst 2, 1) := by decide +kernel
theorem d_K_isBase_2 : decode b_K_isBase 2 = .ok (.if_icmp .lt 13, 3) := by decide +kernel
theorem d_K_isBase_5 : decode b_K_isBase 5 = .ok (.iload_n 0, 1) := by decide +kernel
theorem d_K_isBase_6 : decode b_K_isBase 6 = .ok (.bipush 36, 2) := by decide +kernel
theorem d_K_isBase_8 : decode b_K_isBase 8 = .ok (.if_icmp .gt 7, 3) := by decide +kernel
theorem d_K_isBase_11 : decode b_K_isBase 11 = .ok (.iconst 1, 1) := by decide +kernel
theorem d_K_isBase_12 : decode b_K_isBase 12 = .ok (.goto 4, 3) := by decide +kernel
theorem d_K_isBase_15 : decode b_K_isBase 15 = .ok (.iconst 0, 1) := by decide +kernel
theorem d_K_isBase_16 : decode b_K_isBase 16 = .ok (.ireturn, 1) := by decide +kernel
theorem d_K_needRegister_0 : decode b_K_needRegister 0 = .ok (.iload_n 0, 1) := by decide +kernel
theorem d_K_needRegister_1 : decode b_K_needRegister 1 = .ok (.invokestatic 77, 3) := by decide +kernel
theorem d_K_needRegister_4 : decode b_K_needRegister 4 = .ok (.ifCond .ne 13, 3) := by decide +kernel
theorem d_K_needRegister_7 : decode b_K_needRegister 7 = .ok (.new 57, 3) := by decide +kernel
theorem d_K_needRegister_10 : decode b_K_needRegister 10 = .ok (.dup, 1) := by decide +kernel
theorem d_K_needRegister_11 : decode b_K_needRegister 11 = .ok (.ldc 199, 2) := by decide +kernel
theorem d_K_needRegister_13 : decode b_K_needRegister 13 = .ok (.invokespecial 61, 3) := by decide +kernel
theorem d_K_needRegister_16 : decode b_K_needRegister 16 = .ok (.athrow, 1) := by decide +kernel
theorem d_K_needRegister_17 : decode b_K_needRegister 17 = .ok (.return_, 1) := by decide +kernel
theorem d_K_needRegisters_0 : decode b_K_needRegisters 0 = .ok (.iload_n 0, 1) := by decide +kernel
theorem d_K_needRegisters_1 : decode b_K_needRegisters 1 = .ok (.invokestatic 42, 3) := by decide +kernel
theorem d_K_needRegisters_4 : decode b_K_needRegisters 4 = .ok (.iload_n 1, 1) := by decide +kernel
theorem d_K_needRegisters_5 : decode b_K_needRegisters 5 = .ok (.invokestatic 42, 3) := by decide +kernel
theorem d_K_needRegisters_8 : decode b_K_needRegisters 8 = .ok (.iload_n 2, 1) := by decide +kernel
theorem d_K_needRegisters_9 : decode b_K_needRegisters 9 = .ok (.invokestatic 42, 3) := by decide +kernel
theorem d_K_needRegisters_12 : decode b_K_needRegisters 12 = .ok (.return_, 1) := by decide +kernel
theorem d_K_needKind_0 : decode b_K_needKind 0 = .ok (.iload_n 0, 1) := by decide +kernel
theorem d_K_needKind_1 : decode b_K_needKind 1 = .ok (.ifCond .lt 8, 3) := by decide +kernel
theorem d_K_needKind_4 : decode b_K_needKind 4 = .ok (.iload_n 0, 1) := by decide +kernel
theorem d_K_needKind_5 : decode b_K_needKind 5 = .ok (.iconst 2, 1) := by decide +kernel
theorem d_K_needKind_6 : decode b_K_needKind 6 = .ok (.if_icmp .le 13, 3) := by decide +kernel
theorem d_K_needKind_9 : decode b_K_needKind 9 = .ok (.new 57, 3) := by decide +kernel
theorem d_K_needKind_12 : decode b_K_needKind 12 = .ok (.dup, 1) := by decide +kernel
theorem d_K_needKind_13 : decode b_K_needKind 13 = .ok (.ldc 201, 2) := by decide +kernel
theorem d_K_needKind_15 : decode b_K_needKind 15 = .ok (.invokespecial 61, 3) := by decide +kernel
theorem d_K_needKind_18 : decode b_K_needKind 18 = .ok (.athrow, 1) := by decide +kernel
theorem d_K_needKind_19 : decode b_K_needKind 19 = .ok (.return_, 1) := by decide +kernel
theorem d_K_needFit_0 : decode b_K_needFit 0 = .ok (.aload_n 0, 1) := by decide +kernel
theorem d_K_needFit_1 : decode b_K_needFit 1 = .ok (.invokevirtual 45, 3) := by decide +kernel
theorem d_K_needFit_4 : decode b_K_needFit 4 = .ok (.sipush 2048, 3) := by decide +kernel
theorem d_K_needFit_7 : decode b_K_needFit 7 = .ok (.if_icmp .le 13, 3) := by decide +kernel
theorem d_K_needFit_10 : decode b_K_needFit 10 = .ok (.new 135, 3) := by decide +kernel
theorem d_K_needFit_13 : decode b_K_needFit 13 = .ok (.dup, 1) := by decide +kernel
theorem d_K_needFit_14 : decode b_K_needFit 14 = .ok (.ldc 154, 2) := by decide +kernel
theorem d_K_needFit_16 : decode b_K_needFit 16 = .ok (.invokespecial 139, 3) := by decide +kernel
theorem d_K_needFit_19 : decode b_K_needFit 19 = .ok (.athrow, 1) := by decide +kernel
theorem d_K_needFit_20 : decode b_K_needFit 20 = .ok (.return_, 1) := by decide +kernel
theorem d_K_keep_0 : decode b_K_keep 0 = .ok (.aload_n 1, 1) := by decide +kernel
theorem d_K_keep_1 : decode b_K_keep 1 = .ok (.invokestatic 203, 3) := by decide +kernel
theorem d_K_keep_4 : decode b_K_keep 4 = .ok (.aload_n 0, 1) := by decide +kernel
theorem d_K_keep_5 : decode b_K_keep 5 = .ok (.getfield 11, 3) := by decide +kernel
theorem d_K_keep_8 : decode b_K_keep 8 = .ok (.iload_n 2, 1) := by decide +kernel
theorem d_K_keep_9 : decode b_K_keep 9 = .ok (.aaload, 1) := by decide +kernel
theorem d_K_keep_10 : decode b_K_keep 10 = .ok (.aload_n 1, 1) := by decide +kernel
theorem d_K_keep_11 : decode b_K_keep 11 = .ok (.invokevirtual 98, 3) := by decide +kernel
theorem d_K_keep_14 : decode b_K_keep 14 = .ok (.return_, 1) := by decide +kernel
theorem d_K_multiplyOutcome_0 : decode b_K_multiplyOutcome 0 = .ok (.aload_n 0, 1) := by decide +kernel
theorem d_K_multiplyOutcome_1 : decode b_K_multiplyOutcome 1 = .ok (.getfield 36, 3) := by decide +kernel
theorem d_K_multiplyOutcome_4 : decode b_K_multiplyOutcome 4 = .ok (.aload_n 0, 1) := by decide +kernel
theorem d_K_multiplyOutcome_5 : decode b_K_multiplyOutcome 5 = .ok (.getfield 32, 3) := by decide +kernel
theorem d_K_multiplyOutcome_8 : decode b_K_multiplyOutcome 8 = .ok (.aload_n 1, 1) := by decide +kernel
theorem d_K_multiplyOutcome_9 : decode b_K_multiplyOutcome 9 = .ok (.invokevirtual 126, 3) := by decide +kernel
theorem d_K_multiplyOutcome_12 : decode b_K_multiplyOutcome 12 = .ok (.aload_n 0, 1) := by decide +kernel
theorem d_K_multiplyOutcome_13 : decode b_K_multiplyOutcome 13 = .ok (.getfield 36, 3) := by decide +kernel
theorem d_K_multiplyOutcome_16 : decode b_K_multiplyOutcome 16 = .ok (.invokestatic 203, 3) := by decide +kernel
theorem d_K_multiplyOutcome_19 : decode b_K_multiplyOutcome 19 = .ok (.aload_n 0, 1) := by decide +kernel
theorem d_K_multiplyOutcome_20 : decode b_K_multiplyOutcome 20 = .ok (.getfield 32, 3) := by decide +kernel
theorem d_K_multiplyOutcome_23 : decode b_K_multiplyOutcome 23 = .ok (.aload_n 0, 1) := by decide +kernel
theorem d_K_multiplyOutcome_24 : decode b_K_multiplyOutcome 24 = .ok (.getfield 36, 3) := by decide +kernel
theorem d_K_multiplyOutcome_27 : decode b_K_multiplyOutcome 27 = .ok (.invokevirtual 98, 3) := by decide +kernel
theorem d_K_multiplyOutcome_30 : decode b_K_multiplyOutcome 30 = .ok (.return_, 1) := by decide +kernel
theorem d_K_raiseWithin_0 : decode b_K_raiseWithin 0 = .ok (.aload_n 0, 1) := by decide +kernel
theorem d_K_raiseWithin_1 : decode b_K_raiseWithin 1 = .ok (.getfield 28, 3) := by decide +kernel
theorem d_K_raiseWithin_4 : decode b_K_raiseWithin 4 = .ok (.aload_n 1, 1) := by decide +kernel
theorem d_K_raiseWithin_5 : decode b_K_raiseWithin 5 = .ok (.aload_n 3, 1) := by decide +kernel
theorem d_K_raiseWithin_6 : decode b_K_raiseWithin 6 = .ok (.invokevirtual 206, 3) := by decide +kernel
theorem d_K_raiseWithin_9 : decode b_K_raiseWithin 9 = .ok (.aload_n 0, 1) := by decide +kernel
theorem d_K_raiseWithin_10 : decode b_K_raiseWithin 10 = .ok (.getfield 39, 3) := by decide +kernel
theorem d_K_raiseWithin_13 : decode b_K_raiseWithin 13 = .ok (.aload_n 0, 1) := by decide +kernel
theorem d_K_raiseWithin_14 : decode b_K_raiseWithin 14 = .ok (.getfield 28, 3) := by decide +kernel
theorem d_K_raiseWithin_17 : decode b_K_raiseWithin 17 = .ok (.getfield 149, 3) := by decide +kernel
theorem d_K_raiseWithin_20 : decode b_K_raiseWithin 20 = .ok (.invokevirtual 98, 3) := by decide +kernel
theorem d_K_raiseWithin_23 : decode b_K_raiseWithin 23 = .ok (.aload_n 0, 1) := by decide +kernel
theorem d_K_raiseWithin_24 : decode b_K_raiseWithin 24 = .ok (.getfield 36, 3) := by decide +kernel
theorem d_K_raiseWithin_27 : decode b_K_raiseWithin 27 = .ok (.lconst 1, 1) := by decide +kernel
theorem d_K_raiseWithin_28 : decode b_K_raiseWithin 28 = .ok (.invokevirtual 49, 3) := by decide +kernel
theorem d_K_raiseWithin_31 : decode b_K_raiseWithin 31 = .ok (.aload_n 0, 1) := by decide +kernel
theorem d_K_raiseWithin_32 : decode b_K_raiseWithin 32 = .ok (.aload_n 3, 1) := by decide +kernel
theorem d_K_raiseWithin_33 : decode b_K_raiseWithin 33 = .ok (.invokevirtual 209, 3) := by decide +kernel
theorem d_K_raiseWithin_36 : decode b_K_raiseWithin 36 = .ok (.aload_n 2, 1) := by decide +kernel
theorem d_K_raiseWithin_37 : decode b_K_raiseWithin 37 = .ok (.invokevirtual 45, 3) := by decide +kernel
theorem d_K_raiseWithin_40 : decode b_K_raiseWithin 40 = .ok (.iconst 1, 1) := by decide +kernel
theorem d_K_raiseWithin_41 : decode b_K_raiseWithin 41 = .ok (.isub, 1) := by decide +kernel
theorem d_K_raiseWithin_42 : decode b_K_raiseWithin 42 = .ok (.istore 4, 2) := by decide +kernel
theorem d_K_raiseWithin_44 : decode b_K_raiseWithin 44 = .ok (.iload 4, 2) := by decide +kernel
theorem d_K_raiseWithin_46 : decode b_K_raiseWithin 46 = .ok (.ifCond .lt 58, 3) := by decide +kernel
theorem d_K_raiseWithin_49 : decode b_K_raiseWithin 49 = .ok (.aload_n 0, 1) := by decide +kernel
theorem d_K_raiseWithin_50 : decode b_K_raiseWithin 50 = .ok (.getfield 36, 3) := by decide +kernel
theorem d_K_raiseWithin_53 : decode b_K_raiseWithin 53 = .ok (.aload_n 0, 1) := by decide +kernel
theorem d_K_raiseWithin_54 : decode b_K_raiseWithin 54 = .ok (.getfield 32, 3) := by decide +kernel
theorem d_K_raiseWithin_57 : decode b_K_raiseWithin 57 = .ok (.aload_n 0, 1) := by decide +kernel
theorem d_K_raiseWithin_58 : decode b_K_raiseWithin 58 = .ok (.getfield 32, 3) := by decide +kernel
theorem d_K_raiseWithin_61 : decode b_K_raiseWithin 61 = .ok (.invokevirtual 126, 3) := by decide +kernel
theorem d_K_raiseWithin_64 : decode b_K_raiseWithin 64 = .ok (.aload_n 0, 1) := by decide +kernel
theorem d_K_raiseWithin_65 : decode b_K_raiseWithin 65 = .ok (.aload_n 3, 1) := by decide +kernel
theorem d_K_raiseWithin_66 : decode b_K_raiseWithin 66 = .ok (.invokevirtual 209, 3) := by decide +kernel
theorem d_K_raiseWithin_69 : decode b_K_raiseWithin 69 = .ok (.aload_n 2, 1) := by decide +kernel
theorem d_K_raiseWithin_70 : decode b_K_raiseWithin 70 = .ok (.iload 4, 2) := by decide +kernel
theorem d_K_raiseWithin_72 : decode b_K_raiseWithin 72 = .ok (.invokevirtual 175, 3) := by decide +kernel
theorem d_K_raiseWithin_75 : decode b_K_raiseWithin 75 = .ok (.ifCond .eq 23, 3) := by decide +kernel
theorem d_K_raiseWithin_78 : decode b_K_raiseWithin 78 = .ok (.aload_n 0, 1) := by decide +kernel
theorem d_K_raiseWithin_79 : decode b_K_raiseWithin 79 = .ok (.getfield 36, 3) := by decide +kernel
theorem d_K_raiseWithin_82 : decode b_K_raiseWithin 82 = .ok (.aload_n 0, 1) := by decide +kernel
theorem d_K_raiseWithin_83 : decode b_K_raiseWithin 83 = .ok (.getfield 32, 3) := by decide +kernel
theorem d_K_raiseWithin_86 : decode b_K_raiseWithin 86 = .ok (.aload_n 0, 1) := by decide +kernel
theorem d_K_raiseWithin_87 : decode b_K_raiseWithin 87 = .ok (.getfield 39, 3) := by decide +kernel
theorem d_K_raiseWithin_90 : decode b_K_raiseWithin 90 = .ok (.invokevirtual 126, 3) := by decide +kernel
theorem d_K_raiseWithin_93 : decode b_K_raiseWithin 93 = .ok (.aload_n 0, 1) := by decide +kernel
theorem d_K_raiseWithin_94 : decode b_K_raiseWithin 94 = .ok (.aload_n 3, 1) := by decide +kernel
theorem d_K_raiseWithin_95 : decode b_K_raiseWithin 95 = .ok (.invokevirtual 209, 3) := by decide +kernel
theorem d_K_raiseWithin_98 : decode b_K_raiseWithin 98 = .ok (.iinc 4 (-1), 3) := by decide +kernel
theorem d_K_raiseWithin_101 : decode b_K_raiseWithin 101 = .ok (.goto (-57), 3) := by decide +kernel
theorem d_K_raiseWithin_104 : decode b_K_raiseWithin 104 = .ok (.return_, 1) := by decide +kernel
theorem d_K_reduceProduct_0 : decode b_K_reduceProduct 0 = .ok (.aload_n 0, 1) := by decide +kernel
theorem d_K_reduceProduct_1 : decode b_K_reduceProduct 1 = .ok (.getfield 28, 3) := by decide +kernel
theorem d_K_reduceProduct_4 : decode b_K_reduceProduct 4 = .ok (.aload_n 0, 1) := by decide +kernel
theorem d_K_reduceProduct_5 : decode b_K_reduceProduct 5 = .ok (.getfield 36, 3) := by decide +kernel
