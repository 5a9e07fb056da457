theorem d_L_bits_6 : decode b_L_bits 6 = .ok (.iload_n 3, 1) := by decide +kernel
theorem d_L_bits_7 : decode b_L_bits 7 = .ok (.iload 4, 2) := by decide +kernel
theorem d_L_bits_9 : decode b_L_bits 9 = .ok (.invokevirtual 46, 3) := by decide +kernel
theorem d_L_bits_12 : decode b_L_bits 12 = .ok (.i2l, 1) := by decide +kernel
theorem d_L_bits_13 : decode b_L_bits 13 = .ok (.lastore, 1) := by decide +kernel
theorem d_L_bits_14 : decode b_L_bits 14 = .ok (.goto 11, 3) := by decide +kernel
theorem d_L_bits_17 : decode b_L_bits 17 = .ok (.astore 6, 2) := by decide +kernel
theorem d_L_bits_19 : decode b_L_bits 19 = .ok (.iconst 1, 1) := by decide +kernel
theorem d_L_bits_20 : decode b_L_bits 20 = .ok (.ireturn, 1) := by decide +kernel
theorem d_L_bits_21 : decode b_L_bits 21 = .ok (.astore 6, 2) := by decide +kernel
theorem d_L_bits_23 : decode b_L_bits 23 = .ok (.iconst 2, 1) := by decide +kernel
theorem d_L_bits_24 : decode b_L_bits 24 = .ok (.ireturn, 1) := by decide +kernel
theorem d_L_bits_25 : decode b_L_bits 25 = .ok (.iconst 0, 1) := by decide +kernel
theorem d_L_bits_26 : decode b_L_bits 26 = .ok (.ireturn, 1) := by decide +kernel
theorem d_L_power_0 : decode b_L_power 0 = .ok (.aload 4, 2) := by decide +kernel
theorem d_L_power_2 : decode b_L_power 2 = .ok (.iconst 0, 1) := by decide +kernel
theorem d_L_power_3 : decode b_L_power 3 = .ok (.aload_n 0, 1) := by decide +kernel
theorem d_L_power_4 : decode b_L_power 4 = .ok (.iload_n 1, 1) := by decide +kernel
theorem d_L_power_5 : decode b_L_power 5 = .ok (.iload_n 2, 1) := by decide +kernel
theorem d_L_power_6 : decode b_L_power 6 = .ok (.iload_n 3, 1) := by decide +kernel
theorem d_L_power_7 : decode b_L_power 7 = .ok (.invokevirtual 49, 3) := by decide +kernel
theorem d_L_power_10 : decode b_L_power 10 = .ok (.i2l, 1) := by decide +kernel
theorem d_L_power_11 : decode b_L_power 11 = .ok (.lastore, 1) := by decide +kernel
theorem d_L_power_12 : decode b_L_power 12 = .ok (.goto 11, 3) := by decide +kernel
theorem d_L_power_15 : decode b_L_power 15 = .ok (.astore 5, 2) := by decide +kernel
theorem d_L_power_17 : decode b_L_power 17 = .ok (.iconst 1, 1) := by decide +kernel
theorem d_L_power_18 : decode b_L_power 18 = .ok (.ireturn, 1) := by decide +kernel
theorem d_L_power_19 : decode b_L_power 19 = .ok (.astore 5, 2) := by decide +kernel
theorem d_L_power_21 : decode b_L_power 21 = .ok (.iconst 2, 1) := by decide +kernel
theorem d_L_power_22 : decode b_L_power 22 = .ok (.ireturn, 1) := by decide +kernel
theorem d_L_power_23 : decode b_L_power 23 = .ok (.iconst 0, 1) := by decide +kernel
theorem d_L_power_24 : decode b_L_power 24 = .ok (.ireturn, 1) := by decide +kernel
theorem d_L_residue_0 : decode b_L_residue 0 = .ok (.aload 5, 2) := by decide +kernel
theorem d_L_residue_2 : decode b_L_residue 2 = .ok (.iconst 0, 1) := by decide +kernel
theorem d_L_residue_3 : decode b_L_residue 3 = .ok (.aload_n 0, 1) := by decide +kernel
theorem d_L_residue_4 : decode b_L_residue 4 = .ok (.iload_n 1, 1) := by decide +kernel
theorem d_L_residue_5 : decode b_L_residue 5 = .ok (.iload_n 2, 1) := by decide +kernel
theorem d_L_residue_6 : decode b_L_residue 6 = .ok (.iload_n 3, 1) := by decide +kernel
theorem d_L_residue_7 : decode b_L_residue 7 = .ok (.iload 4, 2) := by decide +kernel
theorem d_L_residue_9 : decode b_L_residue 9 = .ok (.invokevirtual 52, 3) := by decide +kernel
theorem d_L_residue_12 : decode b_L_residue 12 = .ok (.i2l, 1) := by decide +kernel
theorem d_L_residue_13 : decode b_L_residue 13 = .ok (.lastore, 1) := by decide +kernel
theorem d_L_residue_14 : decode b_L_residue 14 = .ok (.goto 11, 3) := by decide +kernel
theorem d_L_residue_17 : decode b_L_residue 17 = .ok (.astore 6, 2) := by decide +kernel
theorem d_L_residue_19 : decode b_L_residue 19 = .ok (.iconst 1, 1) := by decide +kernel
theorem d_L_residue_20 : decode b_L_residue 20 = .ok (.ireturn, 1) := by decide +kernel
theorem d_L_residue_21 : decode b_L_residue 21 = .ok (.astore 6, 2) := by decide +kernel
theorem d_L_residue_23 : decode b_L_residue 23 = .ok (.iconst 2, 1) := by decide +kernel
theorem d_L_residue_24 : decode b_L_residue 24 = .ok (.ireturn, 1) := by decide +kernel
theorem d_L_residue_25 : decode b_L_residue 25 = .ok (.iconst 0, 1) := by decide +kernel
theorem d_L_residue_26 : decode b_L_residue 26 = .ok (.ireturn, 1) := by decide +kernel
theorem d_L_compare_0 : decode b_L_compare 0 = .ok (.aload_n 3, 1) := by decide +kernel
theorem d_L_compare_1 : decode b_L_compare 1 = .ok (.iconst 0, 1) := by decide +kernel
theorem d_L_compare_2 : decode b_L_compare 2 = .ok (.aload_n 0, 1) := by decide +kernel
theorem d_L_compare_3 : decode b_L_compare 3 = .ok (.iload_n 1, 1) := by decide +kernel
theorem d_L_compare_4 : decode b_L_compare 4 = .ok (.iload_n 2, 1) := by decide +kernel
theorem d_L_compare_5 : decode b_L_compare 5 = .ok (.invokevirtual 55, 3) := by decide +kernel
theorem d_L_compare_8 : decode b_L_compare 8 = .ok (.i2l, 1) := by decide +kernel
theorem d_L_compare_9 : decode b_L_compare 9 = .ok (.lastore, 1) := by decide +kernel
theorem d_L_compare_10 : decode b_L_compare 10 = .ok (.goto 7, 3) := by decide +kernel
theorem d_L_compare_13 : decode b_L_compare 13 = .ok (.astore 4, 2) := by decide +kernel
theorem d_L_compare_15 : decode b_L_compare 15 = .ok (.iconst 1, 1) := by decide +kernel
theorem d_L_compare_16 : decode b_L_compare 16 = .ok (.ireturn, 1) := by decide +kernel
theorem d_L_compare_17 : decode b_L_compare 17 = .ok (.iconst 0, 1) := by decide +kernel
theorem d_L_compare_18 : decode b_L_compare 18 = .ok (.ireturn, 1) := by decide +kernel
theorem d_L_small_0 : decode b_L_small 0 = .ok (.aload_n 2, 1) := by decide +kernel
theorem d_L_small_1 : decode b_L_small 1 = .ok (.iconst 0, 1) := by decide +kernel
theorem d_L_small_2 : decode b_L_small 2 = .ok (.aload_n 0, 1) := by decide +kernel
theorem d_L_small_3 : decode b_L_small 3 = .ok (.iload_n 1, 1) := by decide +kernel
theorem d_L_small_4 : decode b_L_small 4 = .ok (.invokevirtual 58, 3) := by decide +kernel
theorem d_L_small_7 : decode b_L_small 7 = .ok (.lastore, 1) := by decide +kernel
theorem d_L_small_8 : decode b_L_small 8 = .ok (.goto 9, 3) := by decide +kernel
theorem d_L_small_11 : decode b_L_small 11 = .ok (.astore_n 3, 1) := by decide +kernel
theorem d_L_small_12 : decode b_L_small 12 = .ok (.iconst 1, 1) := by decide +kernel
theorem d_L_small_13 : decode b_L_small 13 = .ok (.ireturn, 1) := by decide +kernel
theorem d_L_small_14 : decode b_L_small 14 = .ok (.astore_n 3, 1) := by decide +kernel
theorem d_L_small_15 : decode b_L_small 15 = .ok (.iconst 2, 1) := by decide +kernel
theorem d_L_small_16 : decode b_L_small 16 = .ok (.ireturn, 1) := by decide +kernel
theorem d_L_small_17 : decode b_L_small 17 = .ok (.iconst 0, 1) := by decide +kernel
theorem d_L_small_18 : decode b_L_small 18 = .ok (.ireturn, 1) := by decide +kernel
theorem d_L_low_0 : decode b_L_low 0 = .ok (.aload_n 2, 1) := by decide +kernel
theorem d_L_low_1 : decode b_L_low 1 = .ok (.iconst 0, 1) := by decide +kernel
theorem d_L_low_2 : decode b_L_low 2 = .ok (.aload_n 0, 1) := by decide +kernel
theorem d_L_low_3 : decode b_L_low 3 = .ok (.iload_n 1, 1) := by decide +kernel
theorem d_L_low_4 : decode b_L_low 4 = .ok (.invokevirtual 62, 3) := by decide +kernel
theorem d_L_low_7 : decode b_L_low 7 = .ok (.lastore, 1) := by decide +kernel
theorem d_L_low_8 : decode b_L_low 8 = .ok (.goto 6, 3) := by decide +kernel
theorem d_L_low_11 : decode b_L_low 11 = .ok (.astore_n 3, 1) := by decide +kernel
theorem d_L_low_12 : decode b_L_low 12 = .ok (.iconst 1, 1) := by decide +kernel
theorem d_L_low_13 : decode b_L_low 13 = .ok (.ireturn, 1) := by decide +kernel
theorem d_L_low_14 : decode b_L_low 14 = .ok (.iconst 0, 1) := by decide +kernel
theorem d_L_low_15 : decode b_L_low 15 = .ok (.ireturn, 1) := by decide +kernel
theorem d_L_folded_0 : decode b_L_folded 0 = .ok (.aload_n 2, 1) := by decide +kernel
theorem d_L_folded_1 : decode b_L_folded 1 = .ok (.iconst 0, 1) := by decide +kernel
theorem d_L_folded_2 : decode b_L_folded 2 = .ok (.aload_n 0, 1) := by decide +kernel
theorem d_L_folded_3 : decode b_L_folded 3 = .ok (.iload_n 1, 1) := by decide +kernel
theorem d_L_folded_4 : decode b_L_folded 4 = .ok (.invokevirtual 65, 3) := by decide +kernel
theorem d_L_folded_7 : decode b_L_folded 7 = .ok (.lastore, 1) := by decide +kernel
theorem d_L_folded_8 : decode b_L_folded 8 = .ok (.goto 6, 3) := by decide +kernel
theorem d_L_folded_11 : decode b_L_folded 11 = .ok (.astore_n 3, 1) := by decide +kernel
theorem d_L_folded_12 : decode b_L_folded 12 = .ok (.iconst 1, 1) := by decide +kernel
theorem d_L_folded_13 : decode b_L_folded 13 = .ok (.ireturn, 1) := by decide +kernel
theorem d_L_folded_14 : decode b_L_folded 14 = .ok (.iconst 0, 1) := by decide +kernel
theorem d_L_folded_15 : decode b_L_folded 15 = .ok (.ireturn, 1) := by decide +kernel
theorem d_L_size_0 : decode b_L_size 0 = .ok (.aload_n 2, 1) := by decide +kernel
theorem d_L_size_1 : decode b_L_size 1 = .ok (.iconst 0, 1) := by decide +kernel
theorem d_L_size_2 : decode b_L_size 2 = .ok (.aload_n 0, 1) := by decide +kernel
theorem d_L_size_3 : decode b_L_size 3 = .ok (.iload_n 1, 1) := by decide +kernel
theorem d_L_size_4 : decode b_L_size 4 = .ok (.invokevirtual 68, 3) := by decide +kernel
theorem d_L_size_7 : decode b_L_size 7 = .ok (.i2l, 1) := by decide +kernel
theorem d_L_size_8 : decode b_L_size 8 = .ok (.lastore, 1) := by decide +kernel
theorem d_L_size_9 : decode b_L_size 9 = .ok (.goto 6, 3) := by decide +kernel
theorem d_L_size_12 : decode b_L_size 12 = .ok (.astore_n 3, 1) := by decide +kernel
theorem d_L_size_13 : decode b_L_size 13 = .ok (.iconst 1, 1) := by decide +kernel
theorem d_L_size_14 : decode b_L_size 14 = .ok (.ireturn, 1) := by decide +kernel
theorem d_L_size_15 : decode b_L_size 15 = .ok (.iconst 0, 1) := by decide +kernel
theorem d_L_size_16 : decode b_L_size 16 = .ok (.ireturn, 1) := by decide +kernel
