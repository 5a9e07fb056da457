theorem d_W_growBy_34 : decode b_W_growBy 34 = .ok (.iload 7, 2) := by decide +kernel
theorem d_W_growBy_36 : decode b_W_growBy 36 = .ok (.lload 8, 2) := by decide +kernel
theorem d_W_growBy_38 : decode b_W_growBy 38 = .ok (.ldc2_w 34, 3) := by decide +kernel
theorem d_W_growBy_41 : decode b_W_growBy 41 = .ok (.land, 1) := by decide +kernel
theorem d_W_growBy_42 : decode b_W_growBy 42 = .ok (.l2i, 1) := by decide +kernel
theorem d_W_growBy_43 : decode b_W_growBy 43 = .ok (.iastore, 1) := by decide +kernel
theorem d_W_growBy_44 : decode b_W_growBy 44 = .ok (.lload 8, 2) := by decide +kernel
theorem d_W_growBy_46 : decode b_W_growBy 46 = .ok (.bipush 31, 2) := by decide +kernel
theorem d_W_growBy_48 : decode b_W_growBy 48 = .ok (.lushr, 1) := by decide +kernel
theorem d_W_growBy_49 : decode b_W_growBy 49 = .ok (.lstore 5, 2) := by decide +kernel
theorem d_W_growBy_51 : decode b_W_growBy 51 = .ok (.iinc 7 1, 3) := by decide +kernel
theorem d_W_growBy_54 : decode b_W_growBy 54 = .ok (.goto (-48), 3) := by decide +kernel
theorem d_W_growBy_57 : decode b_W_growBy 57 = .ok (.aload_n 0, 1) := by decide +kernel
theorem d_W_growBy_58 : decode b_W_growBy 58 = .ok (.getfield 9, 3) := by decide +kernel
theorem d_W_growBy_61 : decode b_W_growBy 61 = .ok (.aload_n 0, 1) := by decide +kernel
theorem d_W_growBy_62 : decode b_W_growBy 62 = .ok (.getfield 15, 3) := by decide +kernel
theorem d_W_growBy_65 : decode b_W_growBy 65 = .ok (.lload 5, 2) := by decide +kernel
theorem d_W_growBy_67 : decode b_W_growBy 67 = .ok (.l2i, 1) := by decide +kernel
theorem d_W_growBy_68 : decode b_W_growBy 68 = .ok (.iastore, 1) := by decide +kernel
theorem d_W_growBy_69 : decode b_W_growBy 69 = .ok (.aload_n 0, 1) := by decide +kernel
theorem d_W_growBy_70 : decode b_W_growBy 70 = .ok (.aload_n 0, 1) := by decide +kernel
theorem d_W_growBy_71 : decode b_W_growBy 71 = .ok (.getfield 15, 3) := by decide +kernel
theorem d_W_growBy_74 : decode b_W_growBy 74 = .ok (.iconst 1, 1) := by decide +kernel
theorem d_W_growBy_75 : decode b_W_growBy 75 = .ok (.iadd, 1) := by decide +kernel
theorem d_W_growBy_76 : decode b_W_growBy 76 = .ok (.invokevirtual 36, 3) := by decide +kernel
theorem d_W_growBy_79 : decode b_W_growBy 79 = .ok (.return_, 1) := by decide +kernel
theorem d_W_cutBy_0 : decode b_W_cutBy 0 = .ok (.lconst 0, 1) := by decide +kernel
theorem d_W_cutBy_1 : decode b_W_cutBy 1 = .ok (.lstore_n 2, 1) := by decide +kernel
theorem d_W_cutBy_2 : decode b_W_cutBy 2 = .ok (.aload_n 0, 1) := by decide +kernel
theorem d_W_cutBy_3 : decode b_W_cutBy 3 = .ok (.getfield 15, 3) := by decide +kernel
theorem d_W_cutBy_6 : decode b_W_cutBy 6 = .ok (.iconst 1, 1) := by decide +kernel
theorem d_W_cutBy_7 : decode b_W_cutBy 7 = .ok (.isub, 1) := by decide +kernel
theorem d_W_cutBy_8 : decode b_W_cutBy 8 = .ok (.istore 4, 2) := by decide +kernel
theorem d_W_cutBy_10 : decode b_W_cutBy 10 = .ok (.iload 4, 2) := by decide +kernel
theorem d_W_cutBy_12 : decode b_W_cutBy 12 = .ok (.ifCond .lt 43, 3) := by decide +kernel
theorem d_W_cutBy_15 : decode b_W_cutBy 15 = .ok (.lload_n 2, 1) := by decide +kernel
theorem d_W_cutBy_16 : decode b_W_cutBy 16 = .ok (.bipush 31, 2) := by decide +kernel
theorem d_W_cutBy_18 : decode b_W_cutBy 18 = .ok (.lshl, 1) := by decide +kernel
theorem d_W_cutBy_19 : decode b_W_cutBy 19 = .ok (.aload_n 0, 1) := by decide +kernel
theorem d_W_cutBy_20 : decode b_W_cutBy 20 = .ok (.getfield 9, 3) := by decide +kernel
theorem d_W_cutBy_23 : decode b_W_cutBy 23 = .ok (.iload 4, 2) := by decide +kernel
theorem d_W_cutBy_25 : decode b_W_cutBy 25 = .ok (.iaload, 1) := by decide +kernel
theorem d_W_cutBy_26 : decode b_W_cutBy 26 = .ok (.i2l, 1) := by decide +kernel
theorem d_W_cutBy_27 : decode b_W_cutBy 27 = .ok (.lor, 1) := by decide +kernel
theorem d_W_cutBy_28 : decode b_W_cutBy 28 = .ok (.lstore 5, 2) := by decide +kernel
theorem d_W_cutBy_30 : decode b_W_cutBy 30 = .ok (.aload_n 0, 1) := by decide +kernel
theorem d_W_cutBy_31 : decode b_W_cutBy 31 = .ok (.getfield 9, 3) := by decide +kernel
theorem d_W_cutBy_34 : decode b_W_cutBy 34 = .ok (.iload 4, 2) := by decide +kernel
theorem d_W_cutBy_36 : decode b_W_cutBy 36 = .ok (.lload 5, 2) := by decide +kernel
theorem d_W_cutBy_38 : decode b_W_cutBy 38 = .ok (.iload_n 1, 1) := by decide +kernel
theorem d_W_cutBy_39 : decode b_W_cutBy 39 = .ok (.i2l, 1) := by decide +kernel
theorem d_W_cutBy_40 : decode b_W_cutBy 40 = .ok (.ldiv, 1) := by decide +kernel
theorem d_W_cutBy_41 : decode b_W_cutBy 41 = .ok (.l2i, 1) := by decide +kernel
theorem d_W_cutBy_42 : decode b_W_cutBy 42 = .ok (.iastore, 1) := by decide +kernel
theorem d_W_cutBy_43 : decode b_W_cutBy 43 = .ok (.lload 5, 2) := by decide +kernel
theorem d_W_cutBy_45 : decode b_W_cutBy 45 = .ok (.iload_n 1, 1) := by decide +kernel
theorem d_W_cutBy_46 : decode b_W_cutBy 46 = .ok (.i2l, 1) := by decide +kernel
theorem d_W_cutBy_47 : decode b_W_cutBy 47 = .ok (.lrem, 1) := by decide +kernel
theorem d_W_cutBy_48 : decode b_W_cutBy 48 = .ok (.lstore_n 2, 1) := by decide +kernel
theorem d_W_cutBy_49 : decode b_W_cutBy 49 = .ok (.iinc 4 (-1), 3) := by decide +kernel
theorem d_W_cutBy_52 : decode b_W_cutBy 52 = .ok (.goto (-42), 3) := by decide +kernel
theorem d_W_cutBy_55 : decode b_W_cutBy 55 = .ok (.aload_n 0, 1) := by decide +kernel
theorem d_W_cutBy_56 : decode b_W_cutBy 56 = .ok (.aload_n 0, 1) := by decide +kernel
theorem d_W_cutBy_57 : decode b_W_cutBy 57 = .ok (.getfield 15, 3) := by decide +kernel
theorem d_W_cutBy_60 : decode b_W_cutBy 60 = .ok (.invokevirtual 36, 3) := by decide +kernel
theorem d_W_cutBy_63 : decode b_W_cutBy 63 = .ok (.lload_n 2, 1) := by decide +kernel
theorem d_W_cutBy_64 : decode b_W_cutBy 64 = .ok (.l2i, 1) := by decide +kernel
theorem d_W_cutBy_65 : decode b_W_cutBy 65 = .ok (.ireturn, 1) := by decide +kernel
theorem d_W_takeProduct_0 : decode b_W_takeProduct 0 = .ok (.aload_n 1, 1) := by decide +kernel
theorem d_W_takeProduct_1 : decode b_W_takeProduct 1 = .ok (.getfield 15, 3) := by decide +kernel
theorem d_W_takeProduct_4 : decode b_W_takeProduct 4 = .ok (.aload_n 2, 1) := by decide +kernel
theorem d_W_takeProduct_5 : decode b_W_takeProduct 5 = .ok (.getfield 15, 3) := by decide +kernel
theorem d_W_takeProduct_8 : decode b_W_takeProduct 8 = .ok (.iadd, 1) := by decide +kernel
theorem d_W_takeProduct_9 : decode b_W_takeProduct 9 = .ok (.istore_n 3, 1) := by decide +kernel
theorem d_W_takeProduct_10 : decode b_W_takeProduct 10 = .ok (.iconst 0, 1) := by decide +kernel
theorem d_W_takeProduct_11 : decode b_W_takeProduct 11 = .ok (.istore 4, 2) := by decide +kernel
theorem d_W_takeProduct_13 : decode b_W_takeProduct 13 = .ok (.iload 4, 2) := by decide +kernel
theorem d_W_takeProduct_15 : decode b_W_takeProduct 15 = .ok (.iload_n 3, 1) := by decide +kernel
theorem d_W_takeProduct_16 : decode b_W_takeProduct 16 = .ok (.if_icmp .ge 17, 3) := by decide +kernel
theorem d_W_takeProduct_19 : decode b_W_takeProduct 19 = .ok (.aload_n 0, 1) := by decide +kernel
theorem d_W_takeProduct_20 : decode b_W_takeProduct 20 = .ok (.getfield 9, 3) := by decide +kernel
theorem d_W_takeProduct_23 : decode b_W_takeProduct 23 = .ok (.iload 4, 2) := by decide +kernel
theorem d_W_takeProduct_25 : decode b_W_takeProduct 25 = .ok (.iconst 0, 1) := by decide +kernel
theorem d_W_takeProduct_26 : decode b_W_takeProduct 26 = .ok (.iastore, 1) := by decide +kernel
theorem d_W_takeProduct_27 : decode b_W_takeProduct 27 = .ok (.iinc 4 1, 3) := by decide +kernel
theorem d_W_takeProduct_30 : decode b_W_takeProduct 30 = .ok (.goto (-17), 3) := by decide +kernel
theorem d_W_takeProduct_33 : decode b_W_takeProduct 33 = .ok (.iconst 0, 1) := by decide +kernel
theorem d_W_takeProduct_34 : decode b_W_takeProduct 34 = .ok (.istore 4, 2) := by decide +kernel
theorem d_W_takeProduct_36 : decode b_W_takeProduct 36 = .ok (.iload 4, 2) := by decide +kernel
theorem d_W_takeProduct_38 : decode b_W_takeProduct 38 = .ok (.aload_n 1, 1) := by decide +kernel
theorem d_W_takeProduct_39 : decode b_W_takeProduct 39 = .ok (.getfield 15, 3) := by decide +kernel
theorem d_W_takeProduct_42 : decode b_W_takeProduct 42 = .ok (.if_icmp .ge 24, 3) := by decide +kernel
theorem d_W_takeProduct_45 : decode b_W_takeProduct 45 = .ok (.aload_n 0, 1) := by decide +kernel
theorem d_W_takeProduct_46 : decode b_W_takeProduct 46 = .ok (.aload_n 1, 1) := by decide +kernel
theorem d_W_takeProduct_47 : decode b_W_takeProduct 47 = .ok (.getfield 9, 3) := by decide +kernel
theorem d_W_takeProduct_50 : decode b_W_takeProduct 50 = .ok (.iload 4, 2) := by decide +kernel
theorem d_W_takeProduct_52 : decode b_W_takeProduct 52 = .ok (.iaload, 1) := by decide +kernel
theorem d_W_takeProduct_53 : decode b_W_takeProduct 53 = .ok (.i2l, 1) := by decide +kernel
theorem d_W_takeProduct_54 : decode b_W_takeProduct 54 = .ok (.aload_n 2, 1) := by decide +kernel
theorem d_W_takeProduct_55 : decode b_W_takeProduct 55 = .ok (.iload 4, 2) := by decide +kernel
theorem d_W_takeProduct_57 : decode b_W_takeProduct 57 = .ok (.invokevirtual 81, 3) := by decide +kernel
theorem d_W_takeProduct_60 : decode b_W_takeProduct 60 = .ok (.iinc 4 1, 3) := by decide +kernel
theorem d_W_takeProduct_63 : decode b_W_takeProduct 63 = .ok (.goto (-27), 3) := by decide +kernel
theorem d_W_takeProduct_66 : decode b_W_takeProduct 66 = .ok (.aload_n 0, 1) := by decide +kernel
theorem d_W_takeProduct_67 : decode b_W_takeProduct 67 = .ok (.iload_n 3, 1) := by decide +kernel
theorem d_W_takeProduct_68 : decode b_W_takeProduct 68 = .ok (.invokevirtual 36, 3) := by decide +kernel
theorem d_W_takeProduct_71 : decode b_W_takeProduct 71 = .ok (.aload_n 0, 1) := by decide +kernel
theorem d_W_takeProduct_72 : decode b_W_takeProduct 72 = .ok (.aload_n 1, 1) := by decide +kernel
theorem d_W_takeProduct_73 : decode b_W_takeProduct 73 = .ok (.getfield 19, 3) := by decide +kernel
theorem d_W_takeProduct_76 : decode b_W_takeProduct 76 = .ok (.aload_n 2, 1) := by decide +kernel
theorem d_W_takeProduct_77 : decode b_W_takeProduct 77 = .ok (.getfield 19, 3) := by decide +kernel
theorem d_W_takeProduct_80 : decode b_W_takeProduct 80 = .ok (.if_icmp .eq 7, 3) := by decide +kernel
theorem d_W_takeProduct_83 : decode b_W_takeProduct 83 = .ok (.iconst 1, 1) := by decide +kernel
theorem d_W_takeProduct_84 : decode b_W_takeProduct 84 = .ok (.goto 4, 3) := by decide +kernel
theorem d_W_takeProduct_87 : decode b_W_takeProduct 87 = .ok (.iconst 0, 1) := by decide +kernel
theorem d_W_takeProduct_88 : decode b_W_takeProduct 88 = .ok (.invokevirtual 30, 3) := by decide +kernel
theorem d_W_takeProduct_91 : decode b_W_takeProduct 91 = .ok (.return_, 1) := by decide +kernel
theorem d_W_addRow_0 : decode b_W_addRow 0 = .ok (.lconst 0, 1) := by decide +kernel
theorem d_W_addRow_1 : decode b_W_addRow 1 = .ok (.lstore 5, 2) := by decide +kernel
theorem d_W_addRow_3 : decode b_W_addRow 3 = .ok (.iconst 0, 1) := by decide +kernel
theorem d_W_addRow_4 : decode b_W_addRow 4 = .ok (.istore 7, 2) := by decide +kernel
theorem d_W_addRow_6 : decode b_W_addRow 6 = .ok (.iload 7, 2) := by decide +kernel
theorem d_W_addRow_8 : decode b_W_addRow 8 = .ok (.aload_n 3, 1) := by decide +kernel
theorem d_W_addRow_9 : decode b_W_addRow 9 = .ok (.getfield 15, 3) := by decide +kernel
theorem d_W_addRow_12 : decode b_W_addRow 12 = .ok (.if_icmp .ge 60, 3) := by decide +kernel
theorem d_W_addRow_15 : decode b_W_addRow 15 = .ok (.lload_n 1, 1) := by decide +kernel
theorem d_W_addRow_16 : decode b_W_addRow 16 = .ok (.aload_n 3, 1) := by decide +kernel
theorem d_W_addRow_17 : decode b_W_addRow 17 = .ok (.getfield 9, 3) := by decide +kernel
theorem d_W_addRow_20 : decode b_W_addRow 20 = .ok (.iload 7, 2) := by decide +kernel
theorem d_W_addRow_22 : decode b_W_addRow 22 = .ok (.iaload, 1) := by decide +kernel
theorem d_W_addRow_23 : decode b_W_addRow 23 = .ok (.i2l, 1) := by decide +kernel
theorem d_W_addRow_24 : decode b_W_addRow 24 = .ok (.lmul, 1) := by decide +kernel
theorem d_W_addRow_25 : decode b_W_addRow 25 = .ok (.aload_n 0, 1) := by decide +kernel
theorem d_W_addRow_26 : decode b_W_addRow 26 = .ok (.getfield 9, 3) := by decide +kernel
theorem d_W_addRow_29 : decode b_W_addRow 29 = .ok (.iload 4, 2) := by decide +kernel
theorem d_W_addRow_31 : decode b_W_addRow 31 = .ok (.iload 7, 2) := by decide +kernel
theorem d_W_addRow_33 : decode b_W_addRow 33 = .ok (.iadd, 1) := by decide +kernel
theorem d_W_addRow_34 : decode b_W_addRow 34 = .ok (.iaload, 1) := by decide +kernel
theorem d_W_addRow_35 : decode b_W_addRow 35 = .ok (.i2l, 1) := by decide +kernel
theorem d_W_addRow_36 : decode b_W_addRow 36 = .ok (.ladd, 1) := by decide +kernel
theorem d_W_addRow_37 : decode b_W_addRow 37 = .ok (.lload 5, 2) := by decide +kernel
theorem d_W_addRow_39 : decode b_W_addRow 39 = .ok (.ladd, 1) := by decide +kernel
theorem d_W_addRow_40 : decode b_W_addRow 40 = .ok (.lstore 8, 2) := by decide +kernel
theorem d_W_addRow_42 : decode b_W_addRow 42 = .ok (.aload_n 0, 1) := by decide +kernel
theorem d_W_addRow_43 : decode b_W_addRow 43 = .ok (.getfield 9, 3) := by decide +kernel
theorem d_W_addRow_46 : decode b_W_addRow 46 = .ok (.iload 4, 2) := by decide +kernel
theorem d_W_addRow_48 : decode b_W_addRow 48 = .ok (.iload 7, 2) := by decide +kernel
theorem d_W_addRow_50 : decode b_W_addRow 50 = .ok (.iadd, 1) := by decide +kernel
theorem d_W_addRow_51 : decode b_W_addRow 51 = .ok (.lload 8, 2) := by decide +kernel
theorem d_W_addRow_53 : decode b_W_addRow 53 = .ok (.ldc2_w 34, 3) := by decide +kernel
theorem d_W_addRow_56 : decode b_W_addRow 56 = .ok (.land, 1) := by decide +kernel
theorem d_W_addRow_57 : decode b_W_addRow 57 = .ok (.l2i, 1) := by decide +kernel
theorem d_W_addRow_58 : decode b_W_addRow 58 = .ok (.iastore, 1) := by decide +kernel
theorem d_W_addRow_59 : decode b_W_addRow 59 = .ok (.lload 8, 2) := by decide +kernel
theorem d_W_addRow_61 : decode b_W_addRow 61 = .ok (.bipush 31, 2) := by decide +kernel
theorem d_W_addRow_63 : decode b_W_addRow 63 = .ok (.lushr, 1) := by decide +kernel
theorem d_W_addRow_64 : decode b_W_addRow 64 = .ok (.lstore 5, 2) := by decide +kernel
theorem d_W_addRow_66 : decode b_W_addRow 66 = .ok (.iinc 7 1, 3) := by decide +kernel
theorem d_W_addRow_69 : decode b_W_addRow 69 = .ok (.goto (-63), 3) := by decide +kernel
theorem d_W_addRow_72 : decode b_W_addRow 72 = .ok (.aload_n 0, 1) := by decide +kernel
theorem d_W_addRow_73 : decode b_W_addRow 73 = .ok (.getfield 9, 3) := by decide +kernel
theorem d_W_addRow_76 : decode b_W_addRow 76 = .ok (.iload 4, 2) := by decide +kernel
theorem d_W_addRow_78 : decode b_W_addRow 78 = .ok (.aload_n 3, 1) := by decide +kernel
theorem d_W_addRow_79 : decode b_W_addRow 79 = .ok (.getfield 15, 3) := by decide +kernel
theorem d_W_addRow_82 : decode b_W_addRow 82 = .ok (.iadd, 1) := by decide +kernel
theorem d_W_addRow_83 : decode b_W_addRow 83 = .ok (.lload 5, 2) := by decide +kernel
theorem d_W_addRow_85 : decode b_W_addRow 85 = .ok (.l2i, 1) := by decide +kernel
theorem d_W_addRow_86 : decode b_W_addRow 86 = .ok (.iastore, 1) := by decide +kernel
theorem d_W_addRow_87 : decode b_W_addRow 87 = .ok (.return_, 1) := by decide +kernel
theorem d_W_takeRaised_0 : decode b_W_takeRaised 0 = .ok (.aload_n 1, 1) := by decide +kernel
theorem d_W_takeRaised_1 : decode b_W_takeRaised 1 = .ok (.getfield 15, 3) := by decide +kernel
theorem d_W_takeRaised_4 : decode b_W_takeRaised 4 = .ok (.ifCond .ne 7, 3) := by decide +kernel
theorem d_W_takeRaised_7 : decode b_W_takeRaised 7 = .ok (.iconst 0, 1) := by decide +kernel
theorem d_W_takeRaised_8 : decode b_W_takeRaised 8 = .ok (.goto 7, 3) := by decide +kernel
theorem d_W_takeRaised_11 : decode b_W_takeRaised 11 = .ok (.iload_n 2, 1) := by decide +kernel
theorem d_W_takeRaised_12 : decode b_W_takeRaised 12 = .ok (.bipush 31, 2) := by decide +kernel
theorem d_W_takeRaised_14 : decode b_W_takeRaised 14 = .ok (.idiv, 1) := by decide +kernel
theorem d_W_takeRaised_15 : decode b_W_takeRaised 15 = .ok (.istore_n 3, 1) := by decide +kernel
theorem d_W_takeRaised_16 : decode b_W_takeRaised 16 = .ok (.iconst 0, 1) := by decide +kernel
theorem d_W_takeRaised_17 : decode b_W_takeRaised 17 = .ok (.istore 4, 2) := by decide +kernel
theorem d_W_takeRaised_19 : decode b_W_takeRaised 19 = .ok (.iload 4, 2) := by decide +kernel
theorem d_W_takeRaised_21 : decode b_W_takeRaised 21 = .ok (.iload_n 3, 1) := by decide +kernel
theorem d_W_takeRaised_22 : decode b_W_takeRaised 22 = .ok (.if_icmp .ge 17, 3) := by decide +kernel
theorem d_W_takeRaised_25 : decode b_W_takeRaised 25 = .ok (.aload_n 0, 1) := by decide +kernel
theorem d_W_takeRaised_26 : decode b_W_takeRaised 26 = .ok (.getfield 9, 3) := by decide +kernel
theorem d_W_takeRaised_29 : decode b_W_takeRaised 29 = .ok (.iload 4, 2) := by decide +kernel
theorem d_W_takeRaised_31 : decode b_W_takeRaised 31 = .ok (.iconst 0, 1) := by decide +kernel
theorem d_W_takeRaised_32 : decode b_W_takeRaised 32 = .ok (.iastore, 1) := by decide +kernel
theorem d_W_takeRaised_33 : decode b_W_takeRaised 33 = .ok (.iinc 4 1, 3) := by decide +kernel
theorem d_W_takeRaised_36 : decode b_W_takeRaised 36 = .ok (.goto (-17), 3) := by decide +kernel
theorem d_W_takeRaised_39 : decode b_W_takeRaised 39 = .ok (.aload_n 1, 1) := by decide +kernel
theorem d_W_takeRaised_40 : decode b_W_takeRaised 40 = .ok (.aload_n 0, 1) := by decide +kernel
theorem d_W_takeRaised_41 : decode b_W_takeRaised 41 = .ok (.getfield 9, 3) := by decide +kernel
theorem d_W_takeRaised_44 : decode b_W_takeRaised 44 = .ok (.iload_n 3, 1) := by decide +kernel
theorem d_W_takeRaised_45 : decode b_W_takeRaised 45 = .ok (.iload_n 2, 1) := by decide +kernel
theorem d_W_takeRaised_46 : decode b_W_takeRaised 46 = .ok (.bipush 31, 2) := by decide +kernel
theorem d_W_takeRaised_48 : decode b_W_takeRaised 48 = .ok (.irem, 1) := by decide +kernel
theorem d_W_takeRaised_49 : decode b_W_takeRaised 49 = .ok (.invokevirtual 85, 3) := by decide +kernel
theorem d_W_takeRaised_52 : decode b_W_takeRaised 52 = .ok (.aload_n 0, 1) := by decide +kernel
theorem d_W_takeRaised_53 : decode b_W_takeRaised 53 = .ok (.iload_n 3, 1) := by decide +kernel
theorem d_W_takeRaised_54 : decode b_W_takeRaised 54 = .ok (.aload_n 1, 1) := by decide +kernel
theorem d_W_takeRaised_55 : decode b_W_takeRaised 55 = .ok (.getfield 15, 3) := by decide +kernel
theorem d_W_takeRaised_58 : decode b_W_takeRaised 58 = .ok (.iadd, 1) := by decide +kernel
theorem d_W_takeRaised_59 : decode b_W_takeRaised 59 = .ok (.iconst 1, 1) := by decide +kernel
theorem d_W_takeRaised_60 : decode b_W_takeRaised 60 = .ok (.iadd, 1) := by decide +kernel
theorem d_W_takeRaised_61 : decode b_W_takeRaised 61 = .ok (.invokevirtual 36, 3) := by decide +kernel
theorem d_W_takeRaised_64 : decode b_W_takeRaised 64 = .ok (.aload_n 0, 1) := by decide +kernel
theorem d_W_takeRaised_65 : decode b_W_takeRaised 65 = .ok (.aload_n 1, 1) := by decide +kernel
theorem d_W_takeRaised_66 : decode b_W_takeRaised 66 = .ok (.getfield 19, 3) := by decide +kernel
theorem d_W_takeRaised_69 : decode b_W_takeRaised 69 = .ok (.invokevirtual 30, 3) := by decide +kernel
theorem d_W_takeRaised_72 : decode b_W_takeRaised 72 = .ok (.return_, 1) := by decide +kernel
theorem d_W_raiseInto_0 : decode b_W_raiseInto 0 = .ok (.lconst 0, 1) := by decide +kernel
theorem d_W_raiseInto_1 : decode b_W_raiseInto 1 = .ok (.lstore 4, 2) := by decide +kernel
theorem d_W_raiseInto_3 : decode b_W_raiseInto 3 = .ok (.iconst 0, 1) := by decide +kernel
theorem d_W_raiseInto_4 : decode b_W_raiseInto 4 = .ok (.istore 6, 2) := by decide +kernel
theorem d_W_raiseInto_6 : decode b_W_raiseInto 6 = .ok (.iload 6, 2) := by decide +kernel
theorem d_W_raiseInto_8 : decode b_W_raiseInto 8 = .ok (.aload_n 0, 1) := by decide +kernel
theorem d_W_raiseInto_9 : decode b_W_raiseInto 9 = .ok (.getfield 15, 3) := by decide +kernel
theorem d_W_raiseInto_12 : decode b_W_raiseInto 12 = .ok (.if_icmp .ge 44, 3) := by decide +kernel
theorem d_W_raiseInto_15 : decode b_W_raiseInto 15 = .ok (.aload_n 0, 1) := by decide +kernel
theorem d_W_raiseInto_16 : decode b_W_raiseInto 16 = .ok (.getfield 9, 3) := by decide +kernel
theorem d_W_raiseInto_19 : decode b_W_raiseInto 19 = .ok (.iload 6, 2) := by decide +kernel
theorem d_W_raiseInto_21 : decode b_W_raiseInto 21 = .ok (.iaload, 1) := by decide +kernel
theorem d_W_raiseInto_22 : decode b_W_raiseInto 22 = .ok (.i2l, 1) := by decide +kernel
theorem d_W_raiseInto_23 : decode b_W_raiseInto 23 = .ok (.iload_n 3, 1) := by decide +kernel
theorem d_W_raiseInto_24 : decode b_W_raiseInto 24 = .ok (.lshl, 1) := by decide +kernel
theorem d_W_raiseInto_25 : decode b_W_raiseInto 25 = .ok (.lload 4, 2) := by decide +kernel
theorem d_W_raiseInto_27 : decode b_W_raiseInto 27 = .ok (.lor, 1) := by decide +kernel
theorem d_W_raiseInto_28 : decode b_W_raiseInto 28 = .ok (.lstore 7, 2) := by decide +kernel
theorem d_W_raiseInto_30 : decode b_W_raiseInto 30 = .ok (.aload_n 1, 1) := by decide +kernel
theorem d_W_raiseInto_31 : decode b_W_raiseInto 31 = .ok (.iload_n 2, 1) := by decide +kernel
theorem d_W_raiseInto_32 : decode b_W_raiseInto 32 = .ok (.iload 6, 2) := by decide +kernel
theorem d_W_raiseInto_34 : decode b_W_raiseInto 34 = .ok (.iadd, 1) := by decide +kernel
theorem d_W_raiseInto_35 : decode b_W_raiseInto 35 = .ok (.lload 7, 2) := by decide +kernel
theorem d_W_raiseInto_37 : decode b_W_raiseInto 37 = .ok (.ldc2_w 34, 3) := by decide +kernel
theorem d_W_raiseInto_40 : decode b_W_raiseInto 40 = .ok (.land, 1) := by decide +kernel
theorem d_W_raiseInto_41 : decode b_W_raiseInto 41 = .ok (.l2i, 1) := by decide +kernel
theorem d_W_raiseInto_42 : decode b_W_raiseInto 42 = .ok (.iastore, 1) := by decide +kernel
theorem d_W_raiseInto_43 : decode b_W_raiseInto 43 = .ok (.lload 7, 2) := by decide +kernel
theorem d_W_raiseInto_45 : decode b_W_raiseInto 45 = .ok (.bipush 31, 2) := by decide +kernel
theorem d_W_raiseInto_47 : decode b_W_raiseInto 47 = .ok (.lushr, 1) := by decide +kernel
theorem d_W_raiseInto_48 : decode b_W_raiseInto 48 = .ok (.lstore 4, 2) := by decide +kernel
theorem d_W_raiseInto_50 : decode b_W_raiseInto 50 = .ok (.iinc 6 1, 3) := by decide +kernel
theorem d_W_raiseInto_53 : decode b_W_raiseInto 53 = .ok (.goto (-47), 3) := by decide +kernel
theorem d_W_raiseInto_56 : decode b_W_raiseInto 56 = .ok (.aload_n 1, 1) := by decide +kernel
theorem d_W_raiseInto_57 : decode b_W_raiseInto 57 = .ok (.iload_n 2, 1) := by decide +kernel
theorem d_W_raiseInto_58 : decode b_W_raiseInto 58 = .ok (.aload_n 0, 1) := by decide +kernel
theorem d_W_raiseInto_59 : decode b_W_raiseInto 59 = .ok (.getfield 15, 3) := by decide +kernel
theorem d_W_raiseInto_62 : decode b_W_raiseInto 62 = .ok (.iadd, 1) := by decide +kernel
theorem d_W_raiseInto_63 : decode b_W_raiseInto 63 = .ok (.lload 4, 2) := by decide +kernel
theorem d_W_raiseInto_65 : decode b_W_raiseInto 65 = .ok (.l2i, 1) := by decide +kernel
theorem d_W_raiseInto_66 : decode b_W_raiseInto 66 = .ok (.iastore, 1) := by decide +kernel
theorem d_W_raiseInto_67 : decode b_W_raiseInto 67 = .ok (.return_, 1) := by decide +kernel
theorem d_W_takeLowered_0 : decode b_W_takeLowered 0 = .ok (.iload_n 2, 1) := by decide +kernel
theorem d_W_takeLowered_1 : decode b_W_takeLowered 1 = .ok (.bipush 31, 2) := by decide +kernel
theorem d_W_takeLowered_3 : decode b_W_takeLowered 3 = .ok (.idiv, 1) := by decide +kernel
theorem d_W_takeLowered_4 : decode b_W_takeLowered 4 = .ok (.istore_n 3, 1) := by decide +kernel
theorem d_W_takeLowered_5 : decode b_W_takeLowered 5 = .ok (.iload_n 2, 1) := by decide +kernel
theorem d_W_takeLowered_6 : decode b_W_takeLowered 6 = .ok (.bipush 31, 2) := by decide +kernel
theorem d_W_takeLowered_8 : decode b_W_takeLowered 8 = .ok (.irem, 1) := by decide +kernel
theorem d_W_takeLowered_9 : decode b_W_takeLowered 9 = .ok (.istore 4, 2) := by decide +kernel
theorem d_W_takeLowered_11 : decode b_W_takeLowered 11 = .ok (.aload_n 1, 1) := by decide +kernel
theorem d_W_takeLowered_12 : decode b_W_takeLowered 12 = .ok (.getfield 15, 3) := by decide +kernel
theorem d_W_takeLowered_15 : decode b_W_takeLowered 15 = .ok (.iload_n 3, 1) := by decide +kernel
theorem d_W_takeLowered_16 : decode b_W_takeLowered 16 = .ok (.isub, 1) := by decide +kernel
theorem d_W_takeLowered_17 : decode b_W_takeLowered 17 = .ok (.iconst 0, 1) := by decide +kernel
theorem d_W_takeLowered_18 : decode b_W_takeLowered 18 = .ok (.invokestatic 70, 3) := by decide +kernel
theorem d_W_takeLowered_21 : decode b_W_takeLowered 21 = .ok (.istore 5, 2) := by decide +kernel
theorem d_W_takeLowered_23 : decode b_W_takeLowered 23 = .ok (.iconst 0, 1) := by decide +kernel
theorem d_W_takeLowered_24 : decode b_W_takeLowered 24 = .ok (.istore 6, 2) := by decide +kernel
theorem d_W_takeLowered_26 : decode b_W_takeLowered 26 = .ok (.iload 6, 2) := by decide +kernel
theorem d_W_takeLowered_28 : decode b_W_takeLowered 28 = .ok (.iload 5, 2) := by decide +kernel
theorem d_W_takeLowered_30 : decode b_W_takeLowered 30 = .ok (.if_icmp .ge 52, 3) := by decide +kernel
theorem d_W_takeLowered_33 : decode b_W_takeLowered 33 = .ok (.aload_n 1, 1) := by decide +kernel
theorem d_W_takeLowered_34 : decode b_W_takeLowered 34 = .ok (.iload_n 3, 1) := by decide +kernel
theorem d_W_takeLowered_35 : decode b_W_takeLowered 35 = .ok (.iload 6, 2) := by decide +kernel
theorem d_W_takeLowered_37 : decode b_W_takeLowered 37 = .ok (.iadd, 1) := by decide +kernel
theorem d_W_takeLowered_38 : decode b_W_takeLowered 38 = .ok (.iconst 1, 1) := by decide +kernel
theorem d_W_takeLowered_39 : decode b_W_takeLowered 39 = .ok (.iadd, 1) := by decide +kernel
theorem d_W_takeLowered_40 : decode b_W_takeLowered 40 = .ok (.invokevirtual 27, 3) := by decide +kernel
theorem d_W_takeLowered_43 : decode b_W_takeLowered 43 = .ok (.i2l, 1) := by decide +kernel
theorem d_W_takeLowered_44 : decode b_W_takeLowered 44 = .ok (.bipush 31, 2) := by decide +kernel
theorem d_W_takeLowered_46 : decode b_W_takeLowered 46 = .ok (.lshl, 1) := by decide +kernel
theorem d_W_takeLowered_47 : decode b_W_takeLowered 47 = .ok (.aload_n 1, 1) := by decide +kernel
theorem d_W_takeLowered_48 : decode b_W_takeLowered 48 = .ok (.iload_n 3, 1) := by decide +kernel
theorem d_W_takeLowered_49 : decode b_W_takeLowered 49 = .ok (.iload 6, 2) := by decide +kernel
theorem d_W_takeLowered_51 : decode b_W_takeLowered 51 = .ok (.iadd, 1) := by decide +kernel
theorem d_W_takeLowered_52 : decode b_W_takeLowered 52 = .ok (.invokevirtual 27, 3) := by decide +kernel
theorem d_W_takeLowered_55 : decode b_W_takeLowered 55 = .ok (.i2l, 1) := by decide +kernel
theorem d_W_takeLowered_56 : decode b_W_takeLowered 56 = .ok (.lor, 1) := by decide +kernel
theorem d_W_takeLowered_57 : decode b_W_takeLowered 57 = .ok (.lstore 7, 2) := by decide +kernel
theorem d_W_takeLowered_59 : decode b_W_takeLowered 59 = .ok (.aload_n 0, 1) := by decide +kernel
theorem d_W_takeLowered_60 : decode b_W_takeLowered 60 = .ok (.getfield 9, 3) := by decide +kernel
theorem d_W_takeLowered_63 : decode b_W_takeLowered 63 = .ok (.iload 6, 2) := by decide +kernel
theorem d_W_takeLowered_65 : decode b_W_takeLowered 65 = .ok (.lload 7, 2) := by decide +kernel
theorem d_W_takeLowered_67 : decode b_W_takeLowered 67 = .ok (.iload 4, 2) := by decide +kernel
theorem d_W_takeLowered_69 : decode b_W_takeLowered 69 = .ok (.lushr, 1) := by decide +kernel
theorem d_W_takeLowered_70 : decode b_W_takeLowered 70 = .ok (.ldc2_w 34, 3) := by decide +kernel
theorem d_W_takeLowered_73 : decode b_W_takeLowered 73 = .ok (.land, 1) := by decide +kernel
theorem d_W_takeLowered_74 : decode b_W_takeLowered 74 = .ok (.l2i, 1) := by decide +kernel
theorem d_W_takeLowered_75 : decode b_W_takeLowered 75 = .ok (.iastore, 1) := by decide +kernel
theorem d_W_takeLowered_76 : decode b_W_takeLowered 76 = .ok (.iinc 6 1, 3) := by decide +kernel
theorem d_W_takeLowered_79 : decode b_W_takeLowered 79 = .ok (.goto (-53), 3) := by decide +kernel
theorem d_W_takeLowered_82 : decode b_W_takeLowered 82 = .ok (.aload_n 0, 1) := by decide +kernel
theorem d_W_takeLowered_83 : decode b_W_takeLowered 83 = .ok (.iload 5, 2) := by decide +kernel
theorem d_W_takeLowered_85 : decode b_W_takeLowered 85 = .ok (.invokevirtual 36, 3) := by decide +kernel
theorem d_W_takeLowered_88 : decode b_W_takeLowered 88 = .ok (.aload_n 1, 1) := by decide +kernel
theorem d_W_takeLowered_89 : decode b_W_takeLowered 89 = .ok (.getfield 19, 3) := by decide +kernel
theorem d_W_takeLowered_92 : decode b_W_takeLowered 92 = .ok (.ifCond .eq 17, 3) := by decide +kernel
theorem d_W_takeLowered_95 : decode b_W_takeLowered 95 = .ok (.aload_n 1, 1) := by decide +kernel
theorem d_W_takeLowered_96 : decode b_W_takeLowered 96 = .ok (.iload_n 3, 1) := by decide +kernel
theorem d_W_takeLowered_97 : decode b_W_takeLowered 97 = .ok (.iload 4, 2) := by decide +kernel
theorem d_W_takeLowered_99 : decode b_W_takeLowered 99 = .ok (.invokevirtual 89, 3) := by decide +kernel
theorem d_W_takeLowered_102 : decode b_W_takeLowered 102 = .ok (.ifCond .eq 7, 3) := by decide +kernel
theorem d_W_takeLowered_105 : decode b_W_takeLowered 105 = .ok (.aload_n 0, 1) := by decide +kernel
theorem d_W_takeLowered_106 : decode b_W_takeLowered 106 = .ok (.invokevirtual 93, 3) := by decide +kernel
theorem d_W_takeLowered_109 : decode b_W_takeLowered 109 = .ok (.aload_n 0, 1) := by decide +kernel
theorem d_W_takeLowered_110 : decode b_W_takeLowered 110 = .ok (.aload_n 1, 1) := by decide +kernel
theorem d_W_takeLowered_111 : decode b_W_takeLowered 111 = .ok (.getfield 19, 3) := by decide +kernel
theorem d_W_takeLowered_114 : decode b_W_takeLowered 114 = .ok (.invokevirtual 30, 3) := by decide +kernel
theorem d_W_takeLowered_117 : decode b_W_takeLowered 117 = .ok (.return_, 1) := by decide +kernel
theorem d_W_hasOnesUnder_0 : decode b_W_hasOnesUnder 0 = .ok (.aload_n 0, 1) := by decide +kernel
theorem d_W_hasOnesUnder_1 : decode b_W_hasOnesUnder 1 = .ok (.invokevirtual 96, 3) := by decide +kernel
theorem d_W_hasOnesUnder_4 : decode b_W_hasOnesUnder 4 = .ok (.istore_n 3, 1) := by decide +kernel
theorem d_W_hasOnesUnder_5 : decode b_W_hasOnesUnder 5 = .ok (.iload_n 3, 1) := by decide +kernel
theorem d_W_hasOnesUnder_6 : decode b_W_hasOnesUnder 6 = .ok (.iload_n 1, 1) := by decide +kernel
theorem d_W_hasOnesUnder_7 : decode b_W_hasOnesUnder 7 = .ok (.if_icmp .lt 23, 3) := by decide +kernel
theorem d_W_hasOnesUnder_10 : decode b_W_hasOnesUnder 10 = .ok (.iload_n 3, 1) := by decide +kernel
theorem d_W_hasOnesUnder_11 : decode b_W_hasOnesUnder 11 = .ok (.iload_n 1, 1) := by decide +kernel
theorem d_W_hasOnesUnder_12 : decode b_W_hasOnesUnder 12 = .ok (.if_icmp .ne 22, 3) := by decide +kernel
theorem d_W_hasOnesUnder_15 : decode b_W_hasOnesUnder 15 = .ok (.aload_n 0, 1) := by decide +kernel
theorem d_W_hasOnesUnder_16 : decode b_W_hasOnesUnder 16 = .ok (.getfield 9, 3) := by decide +kernel
theorem d_W_hasOnesUnder_19 : decode b_W_hasOnesUnder 19 = .ok (.iload_n 3, 1) := by decide +kernel
theorem d_W_hasOnesUnder_20 : decode b_W_hasOnesUnder 20 = .ok (.iaload, 1) := by decide +kernel
theorem d_W_hasOnesUnder_21 : decode b_W_hasOnesUnder 21 = .ok (.iconst 1, 1) := by decide +kernel
theorem d_W_hasOnesUnder_22 : decode b_W_hasOnesUnder 22 = .ok (.iload_n 2, 1) := by decide +kernel
theorem d_W_hasOnesUnder_23 : decode b_W_hasOnesUnder 23 = .ok (.ishl, 1) := by decide +kernel
theorem d_W_hasOnesUnder_24 : decode b_W_hasOnesUnder 24 = .ok (.iconst 1, 1) := by decide +kernel
theorem d_W_hasOnesUnder_25 : decode b_W_hasOnesUnder 25 = .ok (.isub, 1) := by decide +kernel
theorem d_W_hasOnesUnder_26 : decode b_W_hasOnesUnder 26 = .ok (.iand, 1) := by decide +kernel
theorem d_W_hasOnesUnder_27 : decode b_W_hasOnesUnder 27 = .ok (.ifCond .eq 7, 3) := by decide +kernel
theorem d_W_hasOnesUnder_30 : decode b_W_hasOnesUnder 30 = .ok (.iconst 1, 1) := by decide +kernel
theorem d_W_hasOnesUnder_31 : decode b_W_hasOnesUnder 31 = .ok (.goto 4, 3) := by decide +kernel
theorem d_W_hasOnesUnder_34 : decode b_W_hasOnesUnder 34 = .ok (.iconst 0, 1) := by decide +kernel
theorem d_W_hasOnesUnder_35 : decode b_W_hasOnesUnder 35 = .ok (.ireturn, 1) := by decide +kernel
theorem d_W_lowestLimb_0 : decode b_W_lowestLimb 0 = .ok (.iconst 0, 1) := by decide +kernel
theorem d_W_lowestLimb_1 : decode b_W_lowestLimb 1 = .ok (.istore_n 1, 1) := by decide +kernel
theorem d_W_lowestLimb_2 : decode b_W_lowestLimb 2 = .ok (.iload_n 1, 1) := by decide +kernel
theorem d_W_lowestLimb_3 : decode b_W_lowestLimb 3 = .ok (.aload_n 0, 1) := by decide +kernel
theorem d_W_lowestLimb_4 : decode b_W_lowestLimb 4 = .ok (.getfield 15, 3) := by decide +kernel
theorem d_W_lowestLimb_7 : decode b_W_lowestLimb 7 = .ok (.iconst 1, 1) := by decide +kernel
theorem d_W_lowestLimb_8 : decode b_W_lowestLimb 8 = .ok (.isub, 1) := by decide +kernel
theorem d_W_lowestLimb_9 : decode b_W_lowestLimb 9 = .ok (.if_icmp .ge 18, 3) := by decide +kernel
theorem d_W_lowestLimb_12 : decode b_W_lowestLimb 12 = .ok (.aload_n 0, 1) := by decide +kernel
theorem d_W_lowestLimb_13 : decode b_W_lowestLimb 13 = .ok (.getfield 9, 3) := by decide +kernel
theorem d_W_lowestLimb_16 : decode b_W_lowestLimb 16 = .ok (.iload_n 1, 1) := by decide +kernel
theorem d_W_lowestLimb_17 : decode b_W_lowestLimb 17 = .ok (.iaload, 1) := by decide +kernel
theorem d_W_lowestLimb_18 : decode b_W_lowestLimb 18 = .ok (.ifCond .ne 9, 3) := by decide +kernel
theorem d_W_lowestLimb_21 : decode b_W_lowestLimb 21 = .ok (.iinc 1 1, 3) := by decide +kernel
theorem d_W_lowestLimb_24 : decode b_W_lowestLimb 24 = .ok (.goto (-22), 3) := by decide +kernel
theorem d_W_lowestLimb_27 : decode b_W_lowestLimb 27 = .ok (.iload_n 1, 1) := by decide +kernel
theorem d_W_lowestLimb_28 : decode b_W_lowestLimb 28 = .ok (.ireturn, 1) := by decide +kernel
theorem d_W_takeBits_0 : decode b_W_takeBits 0 = .ok (.aload_n 2, 1) := by decide +kernel
theorem d_W_takeBits_1 : decode b_W_takeBits 1 = .ok (.invokevirtual 96, 3) := by decide +kernel
theorem d_W_takeBits_4 : decode b_W_takeBits 4 = .ok (.istore 4, 2) := by decide +kernel
theorem d_W_takeBits_6 : decode b_W_takeBits 6 = .ok (.aload_n 3, 1) := by decide +kernel
theorem d_W_takeBits_7 : decode b_W_takeBits 7 = .ok (.invokevirtual 96, 3) := by decide +kernel
theorem d_W_takeBits_10 : decode b_W_takeBits 10 = .ok (.istore 5, 2) := by decide +kernel
theorem d_W_takeBits_12 : decode b_W_takeBits 12 = .ok (.iconst 0, 1) := by decide +kernel
theorem d_W_takeBits_13 : decode b_W_takeBits 13 = .ok (.istore 6, 2) := by decide +kernel
theorem d_W_takeBits_15 : decode b_W_takeBits 15 = .ok (.iload 6, 2) := by decide +kernel
theorem d_W_takeBits_17 : decode b_W_takeBits 17 = .ok (.bipush 67, 2) := by decide +kernel
theorem d_W_takeBits_19 : decode b_W_takeBits 19 = .ok (.if_icmp .ge 36, 3) := by decide +kernel
theorem d_W_takeBits_22 : decode b_W_takeBits 22 = .ok (.aload_n 0, 1) := by decide +kernel
theorem d_W_takeBits_23 : decode b_W_takeBits 23 = .ok (.getfield 9, 3) := by decide +kernel
theorem d_W_takeBits_26 : decode b_W_takeBits 26 = .ok (.iload 6, 2) := by decide +kernel
theorem d_W_takeBits_28 : decode b_W_takeBits 28 = .ok (.iload_n 1, 1) := by decide +kernel
theorem d_W_takeBits_29 : decode b_W_takeBits 29 = .ok (.aload_n 2, 1) := by decide +kernel
theorem d_W_takeBits_30 : decode b_W_takeBits 30 = .ok (.iload 6, 2) := by decide +kernel
theorem d_W_takeBits_32 : decode b_W_takeBits 32 = .ok (.iload 4, 2) := by decide +kernel
theorem d_W_takeBits_34 : decode b_W_takeBits 34 = .ok (.invokevirtual 99, 3) := by decide +kernel
theorem d_W_takeBits_37 : decode b_W_takeBits 37 = .ok (.aload_n 3, 1) := by decide +kernel
theorem d_W_takeBits_38 : decode b_W_takeBits 38 = .ok (.iload 6, 2) := by decide +kernel
theorem d_W_takeBits_40 : decode b_W_takeBits 40 = .ok (.iload 5, 2) := by decide +kernel
theorem d_W_takeBits_42 : decode b_W_takeBits 42 = .ok (.invokevirtual 99, 3) := by decide +kernel
theorem d_W_takeBits_45 : decode b_W_takeBits 45 = .ok (.invokestatic 102, 3) := by decide +kernel
theorem d_W_takeBits_48 : decode b_W_takeBits 48 = .ok (.iastore, 1) := by decide +kernel
theorem d_W_takeBits_49 : decode b_W_takeBits 49 = .ok (.iinc 6 1, 3) := by decide +kernel
theorem d_W_takeBits_52 : decode b_W_takeBits 52 = .ok (.goto (-37), 3) := by decide +kernel
theorem d_W_takeBits_55 : decode b_W_takeBits 55 = .ok (.aload_n 0, 1) := by decide +kernel
theorem d_W_takeBits_56 : decode b_W_takeBits 56 = .ok (.bipush 67, 2) := by decide +kernel
theorem d_W_takeBits_58 : decode b_W_takeBits 58 = .ok (.putfield 15, 3) := by decide +kernel
theorem d_W_takeBits_61 : decode b_W_takeBits 61 = .ok (.aload_n 0, 1) := by decide +kernel
theorem d_W_takeBits_62 : decode b_W_takeBits 62 = .ok (.iload_n 1, 1) := by decide +kernel
theorem d_W_takeBits_63 : decode b_W_takeBits 63 = .ok (.aload_n 2, 1) := by decide +kernel
theorem d_W_takeBits_64 : decode b_W_takeBits 64 = .ok (.getfield 19, 3) := by decide +kernel
theorem d_W_takeBits_67 : decode b_W_takeBits 67 = .ok (.ifCond .eq 7, 3) := by decide +kernel
theorem d_W_takeBits_70 : decode b_W_takeBits 70 = .ok (.iconst 1, 1) := by decide +kernel
theorem d_W_takeBits_71 : decode b_W_takeBits 71 = .ok (.goto 4, 3) := by decide +kernel
theorem d_W_takeBits_74 : decode b_W_takeBits 74 = .ok (.iconst 0, 1) := by decide +kernel
theorem d_W_takeBits_75 : decode b_W_takeBits 75 = .ok (.aload_n 3, 1) := by decide +kernel
theorem d_W_takeBits_76 : decode b_W_takeBits 76 = .ok (.getfield 19, 3) := by decide +kernel
theorem d_W_takeBits_79 : decode b_W_takeBits 79 = .ok (.ifCond .eq 7, 3) := by decide +kernel
theorem d_W_takeBits_82 : decode b_W_takeBits 82 = .ok (.iconst 1, 1) := by decide +kernel
theorem d_W_takeBits_83 : decode b_W_takeBits 83 = .ok (.goto 4, 3) := by decide +kernel
theorem d_W_takeBits_86 : decode b_W_takeBits 86 = .ok (.iconst 0, 1) := by decide +kernel
theorem d_W_takeBits_87 : decode b_W_takeBits 87 = .ok (.invokestatic 102, 3) := by decide +kernel
theorem d_W_takeBits_90 : decode b_W_takeBits 90 = .ok (.iconst 1, 1) := by decide +kernel
theorem d_W_takeBits_91 : decode b_W_takeBits 91 = .ok (.if_icmp .ne 7, 3) := by decide +kernel
theorem d_W_takeBits_94 : decode b_W_takeBits 94 = .ok (.iconst 1, 1) := by decide +kernel
theorem d_W_takeBits_95 : decode b_W_takeBits 95 = .ok (.goto 4, 3) := by decide +kernel
theorem d_W_takeBits_98 : decode b_W_takeBits 98 = .ok (.iconst 0, 1) := by decide +kernel
theorem d_W_takeBits_99 : decode b_W_takeBits 99 = .ok (.putfield 19, 3) := by decide +kernel
theorem d_W_takeBits_102 : decode b_W_takeBits 102 = .ok (.aload_n 0, 1) := by decide +kernel
theorem d_W_takeBits_103 : decode b_W_takeBits 103 = .ok (.invokevirtual 96, 3) := by decide +kernel
theorem d_W_takeBits_106 : decode b_W_takeBits 106 = .ok (.istore 6, 2) := by decide +kernel
theorem d_W_takeBits_108 : decode b_W_takeBits 108 = .ok (.iconst 0, 1) := by decide +kernel
theorem d_W_takeBits_109 : decode b_W_takeBits 109 = .ok (.istore 7, 2) := by decide +kernel
theorem d_W_takeBits_111 : decode b_W_takeBits 111 = .ok (.iload 7, 2) := by decide +kernel
theorem d_W_takeBits_113 : decode b_W_takeBits 113 = .ok (.bipush 67, 2) := by decide +kernel
theorem d_W_takeBits_115 : decode b_W_takeBits 115 = .ok (.if_icmp .ge 24, 3) := by decide +kernel
theorem d_W_takeBits_118 : decode b_W_takeBits 118 = .ok (.aload_n 0, 1) := by decide +kernel
theorem d_W_takeBits_119 : decode b_W_takeBits 119 = .ok (.getfield 9, 3) := by decide +kernel
theorem d_W_takeBits_122 : decode b_W_takeBits 122 = .ok (.iload 7, 2) := by decide +kernel
theorem d_W_takeBits_124 : decode b_W_takeBits 124 = .ok (.aload_n 0, 1) := by decide +kernel
theorem d_W_takeBits_125 : decode b_W_takeBits 125 = .ok (.iload 7, 2) := by decide +kernel
theorem d_W_takeBits_127 : decode b_W_takeBits 127 = .ok (.iload 6, 2) := by decide +kernel
theorem d_W_takeBits_129 : decode b_W_takeBits 129 = .ok (.invokevirtual 99, 3) := by decide +kernel
theorem d_W_takeBits_132 : decode b_W_takeBits 132 = .ok (.iastore, 1) := by decide +kernel
theorem d_W_takeBits_133 : decode b_W_takeBits 133 = .ok (.iinc 7 1, 3) := by decide +kernel
theorem d_W_takeBits_136 : decode b_W_takeBits 136 = .ok (.goto (-25), 3) := by decide +kernel
theorem d_W_takeBits_139 : decode b_W_takeBits 139 = .ok (.aload_n 0, 1) := by decide +kernel
theorem d_W_takeBits_140 : decode b_W_takeBits 140 = .ok (.bipush 67, 2) := by decide +kernel
theorem d_W_takeBits_142 : decode b_W_takeBits 142 = .ok (.invokevirtual 36, 3) := by decide +kernel
theorem d_W_takeBits_145 : decode b_W_takeBits 145 = .ok (.return_, 1) := by decide +kernel
theorem d_W_joined_0 : decode b_W_joined 0 = .ok (.iload_n 0, 1) := by decide +kernel
theorem d_W_joined_1 : decode b_W_joined 1 = .ok (.ifCond .ne 9, 3) := by decide +kernel
theorem d_W_joined_4 : decode b_W_joined 4 = .ok (.iload_n 1, 1) := by decide +kernel
theorem d_W_joined_5 : decode b_W_joined 5 = .ok (.iload_n 2, 1) := by decide +kernel
theorem d_W_joined_6 : decode b_W_joined 6 = .ok (.iand, 1) := by decide +kernel
theorem d_W_joined_7 : decode b_W_joined 7 = .ok (.goto 17, 3) := by decide +kernel
theorem d_W_joined_10 : decode b_W_joined 10 = .ok (.iload_n 0, 1) := by decide +kernel
theorem d_W_joined_11 : decode b_W_joined 11 = .ok (.iconst 1, 1) := by decide +kernel
theorem d_W_joined_12 : decode b_W_joined 12 = .ok (.if_icmp .ne 9, 3) := by decide +kernel
theorem d_W_joined_15 : decode b_W_joined 15 = .ok (.iload_n 1, 1) := by decide +kernel
theorem d_W_joined_16 : decode b_W_joined 16 = .ok (.iload_n 2, 1) := by decide +kernel
theorem d_W_joined_17 : decode b_W_joined 17 = .ok (.ior, 1) := by decide +kernel
theorem d_W_joined_18 : decode b_W_joined 18 = .ok (.goto 6, 3) := by decide +kernel
theorem d_W_joined_21 : decode b_W_joined 21 = .ok (.iload_n 1, 1) := by decide +kernel
theorem d_W_joined_22 : decode b_W_joined 22 = .ok (.iload_n 2, 1) := by decide +kernel
theorem d_W_joined_23 : decode b_W_joined 23 = .ok (.ixor, 1) := by decide +kernel
theorem d_W_joined_24 : decode b_W_joined 24 = .ok (.ireturn, 1) := by decide +kernel
theorem d_W_endlessLimb_0 : decode b_W_endlessLimb 0 = .ok (.aload_n 0, 1) := by decide +kernel
theorem d_W_endlessLimb_1 : decode b_W_endlessLimb 1 = .ok (.getfield 19, 3) := by decide +kernel
theorem d_W_endlessLimb_4 : decode b_W_endlessLimb 4 = .ok (.ifCond .ne 9, 3) := by decide +kernel
theorem d_W_endlessLimb_7 : decode b_W_endlessLimb 7 = .ok (.aload_n 0, 1) := by decide +kernel
theorem d_W_endlessLimb_8 : decode b_W_endlessLimb 8 = .ok (.iload_n 1, 1) := by decide +kernel
theorem d_W_endlessLimb_9 : decode b_W_endlessLimb 9 = .ok (.invokevirtual 27, 3) := by decide +kernel
theorem d_W_endlessLimb_12 : decode b_W_endlessLimb 12 = .ok (.ireturn, 1) := by decide +kernel
theorem d_W_endlessLimb_13 : decode b_W_endlessLimb 13 = .ok (.iload_n 1, 1) := by decide +kernel
theorem d_W_endlessLimb_14 : decode b_W_endlessLimb 14 = .ok (.iload_n 2, 1) := by decide +kernel
theorem d_W_endlessLimb_15 : decode b_W_endlessLimb 15 = .ok (.if_icmp .gt 12, 3) := by decide +kernel
theorem d_W_endlessLimb_18 : decode b_W_endlessLimb 18 = .ok (.aload_n 0, 1) := by decide +kernel
theorem d_W_endlessLimb_19 : decode b_W_endlessLimb 19 = .ok (.iload_n 1, 1) := by decide +kernel
theorem d_W_endlessLimb_20 : decode b_W_endlessLimb 20 = .ok (.invokevirtual 27, 3) := by decide +kernel
theorem d_W_endlessLimb_23 : decode b_W_endlessLimb 23 = .ok (.ineg, 1) := by decide +kernel
theorem d_W_endlessLimb_24 : decode b_W_endlessLimb 24 = .ok (.goto 10, 3) := by decide +kernel
theorem d_W_endlessLimb_27 : decode b_W_endlessLimb 27 = .ok (.aload_n 0, 1) := by decide +kernel
theorem d_W_endlessLimb_28 : decode b_W_endlessLimb 28 = .ok (.iload_n 1, 1) := by decide +kernel
theorem d_W_endlessLimb_29 : decode b_W_endlessLimb 29 = .ok (.invokevirtual 27, 3) := by decide +kernel
theorem d_W_endlessLimb_32 : decode b_W_endlessLimb 32 = .ok (.iconst (-1), 1) := by decide +kernel
theorem d_W_endlessLimb_33 : decode b_W_endlessLimb 33 = .ok (.ixor, 1) := by decide +kernel
theorem d_W_endlessLimb_34 : decode b_W_endlessLimb 34 = .ok (.ldc 76, 2) := by decide +kernel
theorem d_W_endlessLimb_36 : decode b_W_endlessLimb 36 = .ok (.iand, 1) := by decide +kernel
theorem d_W_endlessLimb_37 : decode b_W_endlessLimb 37 = .ok (.ireturn, 1) := by decide +kernel
theorem d_D_init_0 : decode b_D_init 0 = .ok (.aload_n 0, 1) := by decide +kernel
theorem d_D_init_1 : decode b_D_init 1 = .ok (.invokespecial 3, 3) := by decide +kernel
theorem d_D_init_4 : decode b_D_init 4 = .ok (.aload_n 0, 1) := by decide +kernel
theorem d_D_init_5 : decode b_D_init 5 = .ok (.new 9, 3) := by decide +kernel
theorem d_D_init_8 : decode b_D_init 8 = .ok (.dup, 1) := by decide +kernel
theorem d_D_init_9 : decode b_D_init 9 = .ok (.sipush 135, 3) := by decide +kernel
theorem d_D_init_12 : decode b_D_init 12 = .ok (.invokespecial 11, 3) := by decide +kernel
theorem d_D_init_15 : decode b_D_init 15 = .ok (.putfield 14, 3) := by decide +kernel
theorem d_D_init_18 : decode b_D_init 18 = .ok (.aload_n 0, 1) := by decide +kernel
theorem d_D_init_19 : decode b_D_init 19 = .ok (.new 9, 3) := by decide +kernel
theorem d_D_init_22 : decode b_D_init 22 = .ok (.dup, 1) := by decide +kernel
theorem d_D_init_23 : decode b_D_init 23 = .ok (.sipush 135, 3) := by decide +kernel
theorem d_D_init_26 : decode b_D_init 26 = .ok (.invokespecial 11, 3) := by decide +kernel
theorem d_D_init_29 : decode b_D_init 29 = .ok (.putfield 20, 3) := by decide +kernel
theorem d_D_init_32 : decode b_D_init 32 = .ok (.aload_n 0, 1) := by decide +kernel
theorem d_D_init_33 : decode b_D_init 33 = .ok (.sipush 135, 3) := by decide +kernel
theorem d_D_init_36 : decode b_D_init 36 = .ok (.newarray .int, 2) := by decide +kernel
theorem d_D_init_38 : decode b_D_init 38 = .ok (.putfield 23, 3) := by decide +kernel
theorem d_D_init_41 : decode b_D_init 41 = .ok (.aload_n 0, 1) := by decide +kernel
theorem d_D_init_42 : decode b_D_init 42 = .ok (.bipush 68, 2) := by decide +kernel
theorem d_D_init_44 : decode b_D_init 44 = .ok (.newarray .int, 2) := by decide +kernel
theorem d_D_init_46 : decode b_D_init 46 = .ok (.putfield 27, 3) := by decide +kernel
theorem d_D_init_49 : decode b_D_init 49 = .ok (.return_, 1) := by decide +kernel
theorem d_D_cutSigned_0 : decode b_D_cutSigned 0 = .ok (.aload_n 0, 1) := by decide +kernel
theorem d_D_cutSigned_1 : decode b_D_cutSigned 1 = .ok (.aload_n 1, 1) := by decide +kernel
