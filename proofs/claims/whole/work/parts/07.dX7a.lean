theorem dX7_in_0 : decode cX7_in 0 = .ok (.lload_n 0, 1) := by decide +kernel
theorem dX7_in_1 : decode cX7_in 1 = .ok (.lload_n 2, 1) := by decide +kernel
theorem dX7_in_2 : decode cX7_in 2 = .ok (.lcmp, 1) := by decide +kernel
theorem dX7_in_3 : decode cX7_in 3 = .ok (.ifCond .lt 14, 3) := by decide +kernel
theorem dX7_in_6 : decode cX7_in 6 = .ok (.lload_n 0, 1) := by decide +kernel
theorem dX7_in_7 : decode cX7_in 7 = .ok (.lload 4, 2) := by decide +kernel
theorem dX7_in_9 : decode cX7_in 9 = .ok (.lcmp, 1) := by decide +kernel
theorem dX7_in_10 : decode cX7_in 10 = .ok (.ifCond .gt 7, 3) := by decide +kernel
theorem dX7_in_13 : decode cX7_in 13 = .ok (.iconst 1, 1) := by decide +kernel
theorem dX7_in_14 : decode cX7_in 14 = .ok (.goto 4, 3) := by decide +kernel
theorem dX7_in_17 : decode cX7_in 17 = .ok (.iconst 0, 1) := by decide +kernel
theorem dX7_in_18 : decode cX7_in 18 = .ok (.ireturn, 1) := by decide +kernel
theorem dX7_has_0 : decode cX7_has 0 = .ok (.iload_n 0, 1) := by decide +kernel
theorem dX7_has_1 : decode cX7_has 1 = .ok (.iload_n 1, 1) := by decide +kernel
theorem dX7_has_2 : decode cX7_has 2 = .ok (.ishr, 1) := by decide +kernel
theorem dX7_has_3 : decode cX7_has 3 = .ok (.iconst 1, 1) := by decide +kernel
theorem dX7_has_4 : decode cX7_has 4 = .ok (.iand, 1) := by decide +kernel
theorem dX7_has_5 : decode cX7_has 5 = .ok (.iconst 1, 1) := by decide +kernel
theorem dX7_has_6 : decode cX7_has 6 = .ok (.if_icmp .ne 7, 3) := by decide +kernel
theorem dX7_has_9 : decode cX7_has 9 = .ok (.iconst 1, 1) := by decide +kernel
theorem dX7_has_10 : decode cX7_has 10 = .ok (.goto 4, 3) := by decide +kernel
theorem dX7_has_13 : decode cX7_has 13 = .ok (.iconst 0, 1) := by decide +kernel
theorem dX7_has_14 : decode cX7_has 14 = .ok (.ireturn, 1) := by decide +kernel
theorem dX7_ones_0 : decode cX7_ones 0 = .ok (.iconst 0, 1) := by decide +kernel
theorem dX7_ones_1 : decode cX7_ones 1 = .ok (.istore_n 1, 1) := by decide +kernel
theorem dX7_ones_2 : decode cX7_ones 2 = .ok (.iconst 0, 1) := by decide +kernel
theorem dX7_ones_3 : decode cX7_ones 3 = .ok (.istore_n 2, 1) := by decide +kernel
theorem dX7_ones_4 : decode cX7_ones 4 = .ok (.iload_n 2, 1) := by decide +kernel
theorem dX7_ones_5 : decode cX7_ones 5 = .ok (.bipush 7, 2) := by decide +kernel
theorem dX7_ones_7 : decode cX7_ones 7 = .ok (.if_icmp .ge 17, 3) := by decide +kernel
theorem dX7_ones_10 : decode cX7_ones 10 = .ok (.iload_n 1, 1) := by decide +kernel
theorem dX7_ones_11 : decode cX7_ones 11 = .ok (.iload_n 0, 1) := by decide +kernel
theorem dX7_ones_12 : decode cX7_ones 12 = .ok (.iload_n 2, 1) := by decide +kernel
theorem dX7_ones_13 : decode cX7_ones 13 = .ok (.ishr, 1) := by decide +kernel
theorem dX7_ones_14 : decode cX7_ones 14 = .ok (.iconst 1, 1) := by decide +kernel
theorem dX7_ones_15 : decode cX7_ones 15 = .ok (.iand, 1) := by decide +kernel
theorem dX7_ones_16 : decode cX7_ones 16 = .ok (.iadd, 1) := by decide +kernel
theorem dX7_ones_17 : decode cX7_ones 17 = .ok (.istore_n 1, 1) := by decide +kernel
theorem dX7_ones_18 : decode cX7_ones 18 = .ok (.iinc 2 1, 3) := by decide +kernel
theorem dX7_ones_21 : decode cX7_ones 21 = .ok (.goto (-17), 3) := by decide +kernel
theorem dX7_ones_24 : decode cX7_ones 24 = .ok (.iload_n 1, 1) := by decide +kernel
theorem dX7_ones_25 : decode cX7_ones 25 = .ok (.ireturn, 1) := by decide +kernel
theorem dX7_write_0 : decode cX7_write 0 = .ok (.iload_n 1, 1) := by decide +kernel
theorem dX7_write_1 : decode cX7_write 1 = .ok (.i2l, 1) := by decide +kernel
theorem dX7_write_2 : decode cX7_write 2 = .ok (.lconst 0, 1) := by decide +kernel
theorem dX7_write_3 : decode cX7_write 3 = .ok (.ldc2_w 68, 3) := by decide +kernel
theorem dX7_write_6 : decode cX7_write 6 = .ok (.invokestatic 70, 3) := by decide +kernel
theorem dX7_write_9 : decode cX7_write 9 = .ok (.ifCond .ne 6, 3) := by decide +kernel
theorem dX7_write_12 : decode cX7_write 12 = .ok (.bipush (-2), 2) := by decide +kernel
theorem dX7_write_14 : decode cX7_write 14 = .ok (.ireturn, 1) := by decide +kernel
theorem dX7_write_15 : decode cX7_write 15 = .ok (.aload_n 0, 1) := by decide +kernel
theorem dX7_write_16 : decode cX7_write 16 = .ok (.getfield 74, 3) := by decide +kernel
theorem dX7_write_19 : decode cX7_write 19 = .ok (.bipush 60, 2) := by decide +kernel
theorem dX7_write_21 : decode cX7_write 21 = .ok (.if_icmp .ne 6, 3) := by decide +kernel
theorem dX7_write_24 : decode cX7_write 24 = .ok (.bipush (-4), 2) := by decide +kernel
theorem dX7_write_26 : decode cX7_write 26 = .ok (.ireturn, 1) := by decide +kernel
theorem dX7_write_27 : decode cX7_write 27 = .ok (.aload_n 0, 1) := by decide +kernel
theorem dX7_write_28 : decode cX7_write 28 = .ok (.getfield 46, 3) := by decide +kernel
theorem dX7_write_31 : decode cX7_write 31 = .ok (.aload_n 0, 1) := by decide +kernel
theorem dX7_write_32 : decode cX7_write 32 = .ok (.getfield 74, 3) := by decide +kernel
theorem dX7_write_35 : decode cX7_write 35 = .ok (.iload_n 1, 1) := by decide +kernel
theorem dX7_write_36 : decode cX7_write 36 = .ok (.iastore, 1) := by decide +kernel
theorem dX7_write_37 : decode cX7_write 37 = .ok (.aload_n 0, 1) := by decide +kernel
theorem dX7_write_38 : decode cX7_write 38 = .ok (.dup, 1) := by decide +kernel
theorem dX7_write_39 : decode cX7_write 39 = .ok (.getfield 74, 3) := by decide +kernel
theorem dX7_write_42 : decode cX7_write 42 = .ok (.iconst 1, 1) := by decide +kernel
theorem dX7_write_43 : decode cX7_write 43 = .ok (.iadd, 1) := by decide +kernel
theorem dX7_write_44 : decode cX7_write 44 = .ok (.putfield 74, 3) := by decide +kernel
theorem dX7_write_47 : decode cX7_write 47 = .ok (.aload_n 0, 1) := by decide +kernel
theorem dX7_write_48 : decode cX7_write 48 = .ok (.getfield 74, 3) := by decide +kernel
theorem dX7_write_51 : decode cX7_write 51 = .ok (.ireturn, 1) := by decide +kernel
theorem dX7_wipe_0 : decode cX7_wipe 0 = .ok (.aload_n 0, 1) := by decide +kernel
theorem dX7_wipe_1 : decode cX7_wipe 1 = .ok (.getfield 74, 3) := by decide +kernel
theorem dX7_wipe_4 : decode cX7_wipe 4 = .ok (.istore_n 1, 1) := by decide +kernel
theorem dX7_wipe_5 : decode cX7_wipe 5 = .ok (.aload_n 0, 1) := by decide +kernel
theorem dX7_wipe_6 : decode cX7_wipe 6 = .ok (.iconst 0, 1) := by decide +kernel
theorem dX7_wipe_7 : decode cX7_wipe 7 = .ok (.putfield 74, 3) := by decide +kernel
theorem dX7_wipe_10 : decode cX7_wipe 10 = .ok (.iload_n 1, 1) := by decide +kernel
theorem dX7_wipe_11 : decode cX7_wipe 11 = .ok (.ireturn, 1) := by decide +kernel
theorem dX7_figureOf_0 : decode cX7_figureOf 0 = .ok (.aload_n 0, 1) := by decide +kernel
theorem dX7_figureOf_1 : decode cX7_figureOf 1 = .ok (.getfield 78, 3) := by decide +kernel
theorem dX7_figureOf_4 : decode cX7_figureOf 4 = .ok (.bipush (-9), 2) := by decide +kernel
theorem dX7_figureOf_6 : decode cX7_figureOf 6 = .ok (.if_icmp .ne 18, 3) := by decide +kernel
theorem dX7_figureOf_9 : decode cX7_figureOf 9 = .ok (.aload_n 0, 1) := by decide +kernel
theorem dX7_figureOf_10 : decode cX7_figureOf 10 = .ok (.getfield 81, 3) := by decide +kernel
theorem dX7_figureOf_13 : decode cX7_figureOf 13 = .ok (.aload_n 0, 1) := by decide +kernel
theorem dX7_figureOf_14 : decode cX7_figureOf 14 = .ok (.getfield 74, 3) := by decide +kernel
theorem dX7_figureOf_17 : decode cX7_figureOf 17 = .ok (.if_icmp .ge 7, 3) := by decide +kernel
theorem dX7_figureOf_20 : decode cX7_figureOf 20 = .ok (.iconst 1, 1) := by decide +kernel
theorem dX7_figureOf_21 : decode cX7_figureOf 21 = .ok (.goto 4, 3) := by decide +kernel
theorem dX7_figureOf_24 : decode cX7_figureOf 24 = .ok (.iconst 0, 1) := by decide +kernel
theorem dX7_figureOf_25 : decode cX7_figureOf 25 = .ok (.istore_n 3, 1) := by decide +kernel
theorem dX7_figureOf_26 : decode cX7_figureOf 26 = .ok (.iload_n 3, 1) := by decide +kernel
theorem dX7_figureOf_27 : decode cX7_figureOf 27 = .ok (.ifCond .eq 18, 3) := by decide +kernel
theorem dX7_figureOf_30 : decode cX7_figureOf 30 = .ok (.aload_n 0, 1) := by decide +kernel
theorem dX7_figureOf_31 : decode cX7_figureOf 31 = .ok (.getfield 46, 3) := by decide +kernel
theorem dX7_figureOf_34 : decode cX7_figureOf 34 = .ok (.aload_n 0, 1) := by decide +kernel
theorem dX7_figureOf_35 : decode cX7_figureOf 35 = .ok (.getfield 81, 3) := by decide +kernel
theorem dX7_figureOf_38 : decode cX7_figureOf 38 = .ok (.iaload, 1) := by decide +kernel
theorem dX7_figureOf_39 : decode cX7_figureOf 39 = .ok (.bipush 48, 2) := by decide +kernel
theorem dX7_figureOf_41 : decode cX7_figureOf 41 = .ok (.isub, 1) := by decide +kernel
theorem dX7_figureOf_42 : decode cX7_figureOf 42 = .ok (.goto 4, 3) := by decide +kernel
theorem dX7_figureOf_45 : decode cX7_figureOf 45 = .ok (.iconst 0, 1) := by decide +kernel
theorem dX7_figureOf_46 : decode cX7_figureOf 46 = .ok (.istore 4, 2) := by decide +kernel
theorem dX7_figureOf_48 : decode cX7_figureOf 48 = .ok (.iload_n 3, 1) := by decide +kernel
theorem dX7_figureOf_49 : decode cX7_figureOf 49 = .ok (.ifCond .eq 21, 3) := by decide +kernel
theorem dX7_figureOf_52 : decode cX7_figureOf 52 = .ok (.iload 4, 2) := by decide +kernel
theorem dX7_figureOf_54 : decode cX7_figureOf 54 = .ok (.i2l, 1) := by decide +kernel
theorem dX7_figureOf_55 : decode cX7_figureOf 55 = .ok (.lconst 0, 1) := by decide +kernel
theorem dX7_figureOf_56 : decode cX7_figureOf 56 = .ok (.iload_n 1, 1) := by decide +kernel
theorem dX7_figureOf_57 : decode cX7_figureOf 57 = .ok (.i2l, 1) := by decide +kernel
theorem dX7_figureOf_58 : decode cX7_figureOf 58 = .ok (.invokestatic 70, 3) := by decide +kernel
theorem dX7_figureOf_61 : decode cX7_figureOf 61 = .ok (.ifCond .eq 9, 3) := by decide +kernel
theorem dX7_figureOf_64 : decode cX7_figureOf 64 = .ok (.iload 4, 2) := by decide +kernel
theorem dX7_figureOf_66 : decode cX7_figureOf 66 = .ok (.iload_n 2, 1) := by decide +kernel
theorem dX7_figureOf_67 : decode cX7_figureOf 67 = .ok (.if_icmp .ne 29, 3) := by decide +kernel
theorem dX7_figureOf_70 : decode cX7_figureOf 70 = .ok (.aload_n 0, 1) := by decide +kernel
theorem dX7_figureOf_71 : decode cX7_figureOf 71 = .ok (.aload_n 0, 1) := by decide +kernel
theorem dX7_figureOf_72 : decode cX7_figureOf 72 = .ok (.getfield 78, 3) := by decide +kernel
theorem dX7_figureOf_75 : decode cX7_figureOf 75 = .ok (.bipush (-9), 2) := by decide +kernel
theorem dX7_figureOf_77 : decode cX7_figureOf 77 = .ok (.if_icmp .ne 10, 3) := by decide +kernel
theorem dX7_figureOf_80 : decode cX7_figureOf 80 = .ok (.aload_n 0, 1) := by decide +kernel
theorem dX7_figureOf_81 : decode cX7_figureOf 81 = .ok (.getfield 81, 3) := by decide +kernel
theorem dX7_figureOf_84 : decode cX7_figureOf 84 = .ok (.goto 7, 3) := by decide +kernel
theorem dX7_figureOf_87 : decode cX7_figureOf 87 = .ok (.aload_n 0, 1) := by decide +kernel
theorem dX7_figureOf_88 : decode cX7_figureOf 88 = .ok (.getfield 78, 3) := by decide +kernel
theorem dX7_figureOf_91 : decode cX7_figureOf 91 = .ok (.putfield 78, 3) := by decide +kernel
theorem dX7_figureOf_94 : decode cX7_figureOf 94 = .ok (.iconst 0, 1) := by decide +kernel
theorem dX7_figureOf_95 : decode cX7_figureOf 95 = .ok (.ireturn, 1) := by decide +kernel
theorem dX7_figureOf_96 : decode cX7_figureOf 96 = .ok (.aload_n 0, 1) := by decide +kernel
theorem dX7_figureOf_97 : decode cX7_figureOf 97 = .ok (.dup, 1) := by decide +kernel
theorem dX7_figureOf_98 : decode cX7_figureOf 98 = .ok (.getfield 81, 3) := by decide +kernel
theorem dX7_figureOf_101 : decode cX7_figureOf 101 = .ok (.iconst 1, 1) := by decide +kernel
theorem dX7_figureOf_102 : decode cX7_figureOf 102 = .ok (.iadd, 1) := by decide +kernel
theorem dX7_figureOf_103 : decode cX7_figureOf 103 = .ok (.putfield 81, 3) := by decide +kernel
theorem dX7_figureOf_106 : decode cX7_figureOf 106 = .ok (.iload 4, 2) := by decide +kernel
theorem dX7_figureOf_108 : decode cX7_figureOf 108 = .ok (.ireturn, 1) := by decide +kernel
theorem dX7_readText_0 : decode cX7_readText 0 = .ok (.aload_n 0, 1) := by decide +kernel
theorem dX7_readText_1 : decode cX7_readText 1 = .ok (.iconst 0, 1) := by decide +kernel
theorem dX7_readText_2 : decode cX7_readText 2 = .ok (.putfield 81, 3) := by decide +kernel
theorem dX7_readText_5 : decode cX7_readText 5 = .ok (.aload_n 0, 1) := by decide +kernel
theorem dX7_readText_6 : decode cX7_readText 6 = .ok (.bipush (-9), 2) := by decide +kernel
theorem dX7_readText_8 : decode cX7_readText 8 = .ok (.putfield 78, 3) := by decide +kernel
theorem dX7_readText_11 : decode cX7_readText 11 = .ok (.aload_n 0, 1) := by decide +kernel
theorem dX7_readText_12 : decode cX7_readText 12 = .ok (.iconst 0, 1) := by decide +kernel
theorem dX7_readText_13 : decode cX7_readText 13 = .ok (.putfield 84, 3) := by decide +kernel
theorem dX7_readText_16 : decode cX7_readText 16 = .ok (.aload_n 0, 1) := by decide +kernel
theorem dX7_readText_17 : decode cX7_readText 17 = .ok (.iconst 0, 1) := by decide +kernel
theorem dX7_readText_18 : decode cX7_readText 18 = .ok (.putfield 87, 3) := by decide +kernel
theorem dX7_readText_21 : decode cX7_readText 21 = .ok (.aload_n 0, 1) := by decide +kernel
theorem dX7_readText_22 : decode cX7_readText 22 = .ok (.iconst 0, 1) := by decide +kernel
theorem dX7_readText_23 : decode cX7_readText 23 = .ok (.putfield 90, 3) := by decide +kernel
theorem dX7_readText_26 : decode cX7_readText 26 = .ok (.aload_n 0, 1) := by decide +kernel
theorem dX7_readText_27 : decode cX7_readText 27 = .ok (.getfield 74, 3) := by decide +kernel
theorem dX7_readText_30 : decode cX7_readText 30 = .ok (.ifCond .eq 14, 3) := by decide +kernel
theorem dX7_readText_33 : decode cX7_readText 33 = .ok (.aload_n 0, 1) := by decide +kernel
theorem dX7_readText_34 : decode cX7_readText 34 = .ok (.getfield 46, 3) := by decide +kernel
theorem dX7_readText_37 : decode cX7_readText 37 = .ok (.iconst 0, 1) := by decide +kernel
theorem dX7_readText_38 : decode cX7_readText 38 = .ok (.iaload, 1) := by decide +kernel
theorem dX7_readText_39 : decode cX7_readText 39 = .ok (.bipush 83, 2) := by decide +kernel
theorem dX7_readText_41 : decode cX7_readText 41 = .ok (.if_icmp .eq 5, 3) := by decide +kernel
theorem dX7_readText_44 : decode cX7_readText 44 = .ok (.iconst 0, 1) := by decide +kernel
theorem dX7_readText_45 : decode cX7_readText 45 = .ok (.ireturn, 1) := by decide +kernel
theorem dX7_readText_46 : decode cX7_readText 46 = .ok (.aload_n 0, 1) := by decide +kernel
theorem dX7_readText_47 : decode cX7_readText 47 = .ok (.iconst 1, 1) := by decide +kernel
theorem dX7_readText_48 : decode cX7_readText 48 = .ok (.putfield 81, 3) := by decide +kernel
theorem dX7_readText_51 : decode cX7_readText 51 = .ok (.aload_n 0, 1) := by decide +kernel
theorem dX7_readText_52 : decode cX7_readText 52 = .ok (.getfield 78, 3) := by decide +kernel
theorem dX7_readText_55 : decode cX7_readText 55 = .ok (.bipush (-9), 2) := by decide +kernel
theorem dX7_readText_57 : decode cX7_readText 57 = .ok (.if_icmp .ne 30, 3) := by decide +kernel
theorem dX7_readText_60 : decode cX7_readText 60 = .ok (.aload_n 0, 1) := by decide +kernel
theorem dX7_readText_61 : decode cX7_readText 61 = .ok (.getfield 81, 3) := by decide +kernel
theorem dX7_readText_64 : decode cX7_readText 64 = .ok (.aload_n 0, 1) := by decide +kernel
theorem dX7_readText_65 : decode cX7_readText 65 = .ok (.getfield 74, 3) := by decide +kernel
theorem dX7_readText_68 : decode cX7_readText 68 = .ok (.if_icmp .ge 19, 3) := by decide +kernel
theorem dX7_readText_71 : decode cX7_readText 71 = .ok (.aload_n 0, 1) := by decide +kernel
theorem dX7_readText_72 : decode cX7_readText 72 = .ok (.aload_n 0, 1) := by decide +kernel
theorem dX7_readText_73 : decode cX7_readText 73 = .ok (.getfield 46, 3) := by decide +kernel
theorem dX7_readText_76 : decode cX7_readText 76 = .ok (.aload_n 0, 1) := by decide +kernel
theorem dX7_readText_77 : decode cX7_readText 77 = .ok (.getfield 81, 3) := by decide +kernel
theorem dX7_readText_80 : decode cX7_readText 80 = .ok (.iaload, 1) := by decide +kernel
theorem dX7_readText_81 : decode cX7_readText 81 = .ok (.invokevirtual 93, 3) := by decide +kernel
theorem dX7_readText_84 : decode cX7_readText 84 = .ok (.goto (-33), 3) := by decide +kernel
theorem dX7_readText_87 : decode cX7_readText 87 = .ok (.aload_n 0, 1) := by decide +kernel
theorem dX7_readText_88 : decode cX7_readText 88 = .ok (.getfield 78, 3) := by decide +kernel
theorem dX7_readText_91 : decode cX7_readText 91 = .ok (.ireturn, 1) := by decide +kernel
theorem dX7_readPart_0 : decode cX7_readPart 0 = .ok (.iload_n 1, 1) := by decide +kernel
theorem dX7_readPart_1 : decode cX7_readPart 1 = .ok (.bipush 78, 2) := by decide +kernel
theorem dX7_readPart_3 : decode cX7_readPart 3 = .ok (.if_icmp .ne 105, 3) := by decide +kernel
theorem dX7_readPart_6 : decode cX7_readPart 6 = .ok (.aload_n 0, 1) := by decide +kernel
theorem dX7_readPart_7 : decode cX7_readPart 7 = .ok (.getfield 84, 3) := by decide +kernel
theorem dX7_readPart_10 : decode cX7_readPart 10 = .ok (.bipush 7, 2) := by decide +kernel
theorem dX7_readPart_12 : decode cX7_readPart 12 = .ok (.if_icmp .ge 96, 3) := by decide +kernel
theorem dX7_readPart_15 : decode cX7_readPart 15 = .ok (.aload_n 0, 1) := by decide +kernel
theorem dX7_readPart_16 : decode cX7_readPart 16 = .ok (.dup, 1) := by decide +kernel
theorem dX7_readPart_17 : decode cX7_readPart 17 = .ok (.getfield 81, 3) := by decide +kernel
theorem dX7_readPart_20 : decode cX7_readPart 20 = .ok (.iconst 1, 1) := by decide +kernel
theorem dX7_readPart_21 : decode cX7_readPart 21 = .ok (.iadd, 1) := by decide +kernel
theorem dX7_readPart_22 : decode cX7_readPart 22 = .ok (.putfield 81, 3) := by decide +kernel
theorem dX7_readPart_25 : decode cX7_readPart 25 = .ok (.iconst 4, 1) := by decide +kernel
theorem dX7_readPart_26 : decode cX7_readPart 26 = .ok (.aload_n 0, 1) := by decide +kernel
theorem dX7_readPart_27 : decode cX7_readPart 27 = .ok (.getfield 84, 3) := by decide +kernel
theorem dX7_readPart_30 : decode cX7_readPart 30 = .ok (.imul, 1) := by decide +kernel
theorem dX7_readPart_31 : decode cX7_readPart 31 = .ok (.istore_n 2, 1) := by decide +kernel
theorem dX7_readPart_32 : decode cX7_readPart 32 = .ok (.aload_n 0, 1) := by decide +kernel
theorem dX7_readPart_33 : decode cX7_readPart 33 = .ok (.getfield 37, 3) := by decide +kernel
theorem dX7_readPart_36 : decode cX7_readPart 36 = .ok (.iload_n 2, 1) := by decide +kernel
theorem dX7_readPart_37 : decode cX7_readPart 37 = .ok (.aload_n 0, 1) := by decide +kernel
theorem dX7_readPart_38 : decode cX7_readPart 38 = .ok (.iconst 5, 1) := by decide +kernel
theorem dX7_readPart_39 : decode cX7_readPart 39 = .ok (.bipush (-9), 2) := by decide +kernel
theorem dX7_readPart_41 : decode cX7_readPart 41 = .ok (.invokevirtual 97, 3) := by decide +kernel
theorem dX7_readPart_44 : decode cX7_readPart 44 = .ok (.iastore, 1) := by decide +kernel
theorem dX7_readPart_45 : decode cX7_readPart 45 = .ok (.aload_n 0, 1) := by decide +kernel
theorem dX7_readPart_46 : decode cX7_readPart 46 = .ok (.getfield 37, 3) := by decide +kernel
theorem dX7_readPart_49 : decode cX7_readPart 49 = .ok (.iload_n 2, 1) := by decide +kernel
theorem dX7_readPart_50 : decode cX7_readPart 50 = .ok (.iconst 1, 1) := by decide +kernel
theorem dX7_readPart_51 : decode cX7_readPart 51 = .ok (.iadd, 1) := by decide +kernel
theorem dX7_readPart_52 : decode cX7_readPart 52 = .ok (.aload_n 0, 1) := by decide +kernel
theorem dX7_readPart_53 : decode cX7_readPart 53 = .ok (.iconst 5, 1) := by decide +kernel
theorem dX7_readPart_54 : decode cX7_readPart 54 = .ok (.aload_n 0, 1) := by decide +kernel
theorem dX7_readPart_55 : decode cX7_readPart 55 = .ok (.getfield 37, 3) := by decide +kernel
theorem dX7_readPart_58 : decode cX7_readPart 58 = .ok (.iload_n 2, 1) := by decide +kernel
theorem dX7_readPart_59 : decode cX7_readPart 59 = .ok (.iaload, 1) := by decide +kernel
theorem dX7_readPart_60 : decode cX7_readPart 60 = .ok (.invokevirtual 97, 3) := by decide +kernel
theorem dX7_readPart_63 : decode cX7_readPart 63 = .ok (.iastore, 1) := by decide +kernel
theorem dX7_readPart_64 : decode cX7_readPart 64 = .ok (.aload_n 0, 1) := by decide +kernel
theorem dX7_readPart_65 : decode cX7_readPart 65 = .ok (.getfield 37, 3) := by decide +kernel
theorem dX7_readPart_68 : decode cX7_readPart 68 = .ok (.iload_n 2, 1) := by decide +kernel
theorem dX7_readPart_69 : decode cX7_readPart 69 = .ok (.iconst 2, 1) := by decide +kernel
theorem dX7_readPart_70 : decode cX7_readPart 70 = .ok (.iadd, 1) := by decide +kernel
theorem dX7_readPart_71 : decode cX7_readPart 71 = .ok (.aload_n 0, 1) := by decide +kernel
theorem dX7_readPart_72 : decode cX7_readPart 72 = .ok (.bipush 9, 2) := by decide +kernel
theorem dX7_readPart_74 : decode cX7_readPart 74 = .ok (.bipush (-9), 2) := by decide +kernel
theorem dX7_readPart_76 : decode cX7_readPart 76 = .ok (.invokevirtual 97, 3) := by decide +kernel
theorem dX7_readPart_79 : decode cX7_readPart 79 = .ok (.iastore, 1) := by decide +kernel
theorem dX7_readPart_80 : decode cX7_readPart 80 = .ok (.aload_n 0, 1) := by decide +kernel
theorem dX7_readPart_81 : decode cX7_readPart 81 = .ok (.getfield 37, 3) := by decide +kernel
theorem dX7_readPart_84 : decode cX7_readPart 84 = .ok (.iload_n 2, 1) := by decide +kernel
theorem dX7_readPart_85 : decode cX7_readPart 85 = .ok (.iconst 3, 1) := by decide +kernel
theorem dX7_readPart_86 : decode cX7_readPart 86 = .ok (.iadd, 1) := by decide +kernel
theorem dX7_readPart_87 : decode cX7_readPart 87 = .ok (.aload_n 0, 1) := by decide +kernel
theorem dX7_readPart_88 : decode cX7_readPart 88 = .ok (.iconst 3, 1) := by decide +kernel
theorem dX7_readPart_89 : decode cX7_readPart 89 = .ok (.bipush (-9), 2) := by decide +kernel
theorem dX7_readPart_91 : decode cX7_readPart 91 = .ok (.invokevirtual 97, 3) := by decide +kernel
theorem dX7_readPart_94 : decode cX7_readPart 94 = .ok (.iastore, 1) := by decide +kernel
theorem dX7_readPart_95 : decode cX7_readPart 95 = .ok (.aload_n 0, 1) := by decide +kernel
theorem dX7_readPart_96 : decode cX7_readPart 96 = .ok (.dup, 1) := by decide +kernel
theorem dX7_readPart_97 : decode cX7_readPart 97 = .ok (.getfield 84, 3) := by decide +kernel
theorem dX7_readPart_100 : decode cX7_readPart 100 = .ok (.iconst 1, 1) := by decide +kernel
theorem dX7_readPart_101 : decode cX7_readPart 101 = .ok (.iadd, 1) := by decide +kernel
theorem dX7_readPart_102 : decode cX7_readPart 102 = .ok (.putfield 84, 3) := by decide +kernel
theorem dX7_readPart_105 : decode cX7_readPart 105 = .ok (.goto 171, 3) := by decide +kernel
theorem dX7_readPart_108 : decode cX7_readPart 108 = .ok (.iload_n 1, 1) := by decide +kernel
theorem dX7_readPart_109 : decode cX7_readPart 109 = .ok (.bipush 87, 2) := by decide +kernel
theorem dX7_readPart_111 : decode cX7_readPart 111 = .ok (.if_icmp .ne 73, 3) := by decide +kernel
theorem dX7_readPart_114 : decode cX7_readPart 114 = .ok (.aload_n 0, 1) := by decide +kernel
theorem dX7_readPart_115 : decode cX7_readPart 115 = .ok (.getfield 87, 3) := by decide +kernel
theorem dX7_readPart_118 : decode cX7_readPart 118 = .ok (.iconst 4, 1) := by decide +kernel
theorem dX7_readPart_119 : decode cX7_readPart 119 = .ok (.if_icmp .ge 65, 3) := by decide +kernel
theorem dX7_readPart_122 : decode cX7_readPart 122 = .ok (.aload_n 0, 1) := by decide +kernel
theorem dX7_readPart_123 : decode cX7_readPart 123 = .ok (.dup, 1) := by decide +kernel
theorem dX7_readPart_124 : decode cX7_readPart 124 = .ok (.getfield 81, 3) := by decide +kernel
theorem dX7_readPart_127 : decode cX7_readPart 127 = .ok (.iconst 1, 1) := by decide +kernel
theorem dX7_readPart_128 : decode cX7_readPart 128 = .ok (.iadd, 1) := by decide +kernel
theorem dX7_readPart_129 : decode cX7_readPart 129 = .ok (.putfield 81, 3) := by decide +kernel
theorem dX7_readPart_132 : decode cX7_readPart 132 = .ok (.aload_n 0, 1) := by decide +kernel
theorem dX7_readPart_133 : decode cX7_readPart 133 = .ok (.getfield 40, 3) := by decide +kernel
theorem dX7_readPart_136 : decode cX7_readPart 136 = .ok (.iconst 2, 1) := by decide +kernel
theorem dX7_readPart_137 : decode cX7_readPart 137 = .ok (.aload_n 0, 1) := by decide +kernel
theorem dX7_readPart_138 : decode cX7_readPart 138 = .ok (.getfield 87, 3) := by decide +kernel
theorem dX7_readPart_141 : decode cX7_readPart 141 = .ok (.imul, 1) := by decide +kernel
theorem dX7_readPart_142 : decode cX7_readPart 142 = .ok (.aload_n 0, 1) := by decide +kernel
theorem dX7_readPart_143 : decode cX7_readPart 143 = .ok (.iconst 5, 1) := by decide +kernel
theorem dX7_readPart_144 : decode cX7_readPart 144 = .ok (.bipush (-9), 2) := by decide +kernel
theorem dX7_readPart_146 : decode cX7_readPart 146 = .ok (.invokevirtual 97, 3) := by decide +kernel
theorem dX7_readPart_149 : decode cX7_readPart 149 = .ok (.iastore, 1) := by decide +kernel
theorem dX7_readPart_150 : decode cX7_readPart 150 = .ok (.aload_n 0, 1) := by decide +kernel
theorem dX7_readPart_151 : decode cX7_readPart 151 = .ok (.getfield 40, 3) := by decide +kernel
theorem dX7_readPart_154 : decode cX7_readPart 154 = .ok (.iconst 2, 1) := by decide +kernel
theorem dX7_readPart_155 : decode cX7_readPart 155 = .ok (.aload_n 0, 1) := by decide +kernel
theorem dX7_readPart_156 : decode cX7_readPart 156 = .ok (.getfield 87, 3) := by decide +kernel
theorem dX7_readPart_159 : decode cX7_readPart 159 = .ok (.imul, 1) := by decide +kernel
theorem dX7_readPart_160 : decode cX7_readPart 160 = .ok (.iconst 1, 1) := by decide +kernel
theorem dX7_readPart_161 : decode cX7_readPart 161 = .ok (.iadd, 1) := by decide +kernel
theorem dX7_readPart_162 : decode cX7_readPart 162 = .ok (.aload_n 0, 1) := by decide +kernel
theorem dX7_readPart_163 : decode cX7_readPart 163 = .ok (.bipush 9, 2) := by decide +kernel
theorem dX7_readPart_165 : decode cX7_readPart 165 = .ok (.bipush (-9), 2) := by decide +kernel
theorem dX7_readPart_167 : decode cX7_readPart 167 = .ok (.invokevirtual 97, 3) := by decide +kernel
theorem dX7_readPart_170 : decode cX7_readPart 170 = .ok (.iastore, 1) := by decide +kernel
theorem dX7_readPart_171 : decode cX7_readPart 171 = .ok (.aload_n 0, 1) := by decide +kernel
theorem dX7_readPart_172 : decode cX7_readPart 172 = .ok (.dup, 1) := by decide +kernel
theorem dX7_readPart_173 : decode cX7_readPart 173 = .ok (.getfield 87, 3) := by decide +kernel
theorem dX7_readPart_176 : decode cX7_readPart 176 = .ok (.iconst 1, 1) := by decide +kernel
theorem dX7_readPart_177 : decode cX7_readPart 177 = .ok (.iadd, 1) := by decide +kernel
theorem dX7_readPart_178 : decode cX7_readPart 178 = .ok (.putfield 87, 3) := by decide +kernel
theorem dX7_readPart_181 : decode cX7_readPart 181 = .ok (.goto 95, 3) := by decide +kernel
theorem dX7_readPart_184 : decode cX7_readPart 184 = .ok (.iload_n 1, 1) := by decide +kernel
theorem dX7_readPart_185 : decode cX7_readPart 185 = .ok (.bipush 68, 2) := by decide +kernel
theorem dX7_readPart_187 : decode cX7_readPart 187 = .ok (.if_icmp .ne 81, 3) := by decide +kernel
theorem dX7_readPart_190 : decode cX7_readPart 190 = .ok (.aload_n 0, 1) := by decide +kernel
theorem dX7_readPart_191 : decode cX7_readPart 191 = .ok (.getfield 90, 3) := by decide +kernel
theorem dX7_readPart_194 : decode cX7_readPart 194 = .ok (.iconst 3, 1) := by decide +kernel
theorem dX7_readPart_195 : decode cX7_readPart 195 = .ok (.if_icmp .ge 73, 3) := by decide +kernel
theorem dX7_readPart_198 : decode cX7_readPart 198 = .ok (.aload_n 0, 1) := by decide +kernel
theorem dX7_readPart_199 : decode cX7_readPart 199 = .ok (.dup, 1) := by decide +kernel
theorem dX7_readPart_200 : decode cX7_readPart 200 = .ok (.getfield 81, 3) := by decide +kernel
theorem dX7_readPart_203 : decode cX7_readPart 203 = .ok (.iconst 1, 1) := by decide +kernel
theorem dX7_readPart_204 : decode cX7_readPart 204 = .ok (.iadd, 1) := by decide +kernel
theorem dX7_readPart_205 : decode cX7_readPart 205 = .ok (.putfield 81, 3) := by decide +kernel
theorem dX7_readPart_208 : decode cX7_readPart 208 = .ok (.aload_n 0, 1) := by decide +kernel
theorem dX7_readPart_209 : decode cX7_readPart 209 = .ok (.getfield 43, 3) := by decide +kernel
theorem dX7_readPart_212 : decode cX7_readPart 212 = .ok (.iconst 2, 1) := by decide +kernel
theorem dX7_readPart_213 : decode cX7_readPart 213 = .ok (.aload_n 0, 1) := by decide +kernel
theorem dX7_readPart_214 : decode cX7_readPart 214 = .ok (.getfield 90, 3) := by decide +kernel
theorem dX7_readPart_217 : decode cX7_readPart 217 = .ok (.imul, 1) := by decide +kernel
theorem dX7_readPart_218 : decode cX7_readPart 218 = .ok (.aload_n 0, 1) := by decide +kernel
theorem dX7_readPart_219 : decode cX7_readPart 219 = .ok (.iconst 5, 1) := by decide +kernel
theorem dX7_readPart_220 : decode cX7_readPart 220 = .ok (.bipush (-9), 2) := by decide +kernel
theorem dX7_readPart_222 : decode cX7_readPart 222 = .ok (.invokevirtual 97, 3) := by decide +kernel
theorem dX7_readPart_225 : decode cX7_readPart 225 = .ok (.iastore, 1) := by decide +kernel
theorem dX7_readPart_226 : decode cX7_readPart 226 = .ok (.aload_n 0, 1) := by decide +kernel
theorem dX7_readPart_227 : decode cX7_readPart 227 = .ok (.getfield 43, 3) := by decide +kernel
theorem dX7_readPart_230 : decode cX7_readPart 230 = .ok (.iconst 2, 1) := by decide +kernel
theorem dX7_readPart_231 : decode cX7_readPart 231 = .ok (.aload_n 0, 1) := by decide +kernel
theorem dX7_readPart_232 : decode cX7_readPart 232 = .ok (.getfield 90, 3) := by decide +kernel
theorem dX7_readPart_235 : decode cX7_readPart 235 = .ok (.imul, 1) := by decide +kernel
theorem dX7_readPart_236 : decode cX7_readPart 236 = .ok (.iconst 1, 1) := by decide +kernel
theorem dX7_readPart_237 : decode cX7_readPart 237 = .ok (.iadd, 1) := by decide +kernel
theorem dX7_readPart_238 : decode cX7_readPart 238 = .ok (.aload_n 0, 1) := by decide +kernel
theorem dX7_readPart_239 : decode cX7_readPart 239 = .ok (.iconst 5, 1) := by decide +kernel
theorem dX7_readPart_240 : decode cX7_readPart 240 = .ok (.aload_n 0, 1) := by decide +kernel
theorem dX7_readPart_241 : decode cX7_readPart 241 = .ok (.getfield 43, 3) := by decide +kernel
theorem dX7_readPart_244 : decode cX7_readPart 244 = .ok (.iconst 2, 1) := by decide +kernel
theorem dX7_readPart_245 : decode cX7_readPart 245 = .ok (.aload_n 0, 1) := by decide +kernel
theorem dX7_readPart_246 : decode cX7_readPart 246 = .ok (.getfield 90, 3) := by decide +kernel
theorem dX7_readPart_249 : decode cX7_readPart 249 = .ok (.imul, 1) := by decide +kernel
theorem dX7_readPart_250 : decode cX7_readPart 250 = .ok (.iaload, 1) := by decide +kernel
theorem dX7_readPart_251 : decode cX7_readPart 251 = .ok (.invokevirtual 97, 3) := by decide +kernel
theorem dX7_readPart_254 : decode cX7_readPart 254 = .ok (.iastore, 1) := by decide +kernel
theorem dX7_readPart_255 : decode cX7_readPart 255 = .ok (.aload_n 0, 1) := by decide +kernel
theorem dX7_readPart_256 : decode cX7_readPart 256 = .ok (.dup, 1) := by decide +kernel
theorem dX7_readPart_257 : decode cX7_readPart 257 = .ok (.getfield 90, 3) := by decide +kernel
theorem dX7_readPart_260 : decode cX7_readPart 260 = .ok (.iconst 1, 1) := by decide +kernel
theorem dX7_readPart_261 : decode cX7_readPart 261 = .ok (.iadd, 1) := by decide +kernel
theorem dX7_readPart_262 : decode cX7_readPart 262 = .ok (.putfield 90, 3) := by decide +kernel
theorem dX7_readPart_265 : decode cX7_readPart 265 = .ok (.goto 11, 3) := by decide +kernel
theorem dX7_readPart_268 : decode cX7_readPart 268 = .ok (.aload_n 0, 1) := by decide +kernel
theorem dX7_readPart_269 : decode cX7_readPart 269 = .ok (.aload_n 0, 1) := by decide +kernel
theorem dX7_readPart_270 : decode cX7_readPart 270 = .ok (.getfield 81, 3) := by decide +kernel
theorem dX7_readPart_273 : decode cX7_readPart 273 = .ok (.putfield 78, 3) := by decide +kernel
theorem dX7_readPart_276 : decode cX7_readPart 276 = .ok (.return_, 1) := by decide +kernel
theorem dX7_fault_0 : decode cX7_fault 0 = .ok (.aload_n 0, 1) := by decide +kernel
theorem dX7_fault_1 : decode cX7_fault 1 = .ok (.invokevirtual 101, 3) := by decide +kernel
theorem dX7_fault_4 : decode cX7_fault 4 = .ok (.ireturn, 1) := by decide +kernel
theorem dX7_town_0 : decode cX7_town 0 = .ok (.aload_n 0, 1) := by decide +kernel
theorem dX7_town_1 : decode cX7_town 1 = .ok (.invokevirtual 101, 3) := by decide +kernel
theorem dX7_town_4 : decode cX7_town 4 = .ok (.bipush (-9), 2) := by decide +kernel
theorem dX7_town_6 : decode cX7_town 6 = .ok (.if_icmp .eq 6, 3) := by decide +kernel
theorem dX7_town_9 : decode cX7_town 9 = .ok (.bipush (-3), 2) := by decide +kernel
theorem dX7_town_11 : decode cX7_town 11 = .ok (.ireturn, 1) := by decide +kernel
theorem dX7_town_12 : decode cX7_town 12 = .ok (.aload_n 0, 1) := by decide +kernel
theorem dX7_town_13 : decode cX7_town 13 = .ok (.aload_n 0, 1) := by decide +kernel
theorem dX7_town_14 : decode cX7_town 14 = .ok (.getfield 84, 3) := by decide +kernel
theorem dX7_town_17 : decode cX7_town 17 = .ok (.putfield 105, 3) := by decide +kernel
theorem dX7_town_20 : decode cX7_town 20 = .ok (.aload_n 0, 1) := by decide +kernel
theorem dX7_town_21 : decode cX7_town 21 = .ok (.aload_n 0, 1) := by decide +kernel
theorem dX7_town_22 : decode cX7_town 22 = .ok (.getfield 87, 3) := by decide +kernel
theorem dX7_town_25 : decode cX7_town 25 = .ok (.putfield 108, 3) := by decide +kernel
theorem dX7_town_28 : decode cX7_town 28 = .ok (.aload_n 0, 1) := by decide +kernel
theorem dX7_town_29 : decode cX7_town 29 = .ok (.aload_n 0, 1) := by decide +kernel
theorem dX7_town_30 : decode cX7_town 30 = .ok (.getfield 90, 3) := by decide +kernel
theorem dX7_town_33 : decode cX7_town 33 = .ok (.putfield 111, 3) := by decide +kernel
theorem dX7_town_36 : decode cX7_town 36 = .ok (.iconst 0, 1) := by decide +kernel
theorem dX7_town_37 : decode cX7_town 37 = .ok (.istore_n 1, 1) := by decide +kernel
theorem dX7_town_38 : decode cX7_town 38 = .ok (.iload_n 1, 1) := by decide +kernel
theorem dX7_town_39 : decode cX7_town 39 = .ok (.bipush 9, 2) := by decide +kernel
theorem dX7_town_41 : decode cX7_town 41 = .ok (.if_icmp .ge 16, 3) := by decide +kernel
theorem dX7_town_44 : decode cX7_town 44 = .ok (.aload_n 0, 1) := by decide +kernel
theorem dX7_town_45 : decode cX7_town 45 = .ok (.getfield 34, 3) := by decide +kernel
theorem dX7_town_48 : decode cX7_town 48 = .ok (.iload_n 1, 1) := by decide +kernel
theorem dX7_town_49 : decode cX7_town 49 = .ok (.iconst 0, 1) := by decide +kernel
theorem dX7_town_50 : decode cX7_town 50 = .ok (.iastore, 1) := by decide +kernel
theorem dX7_town_51 : decode cX7_town 51 = .ok (.iinc 1 1, 3) := by decide +kernel
theorem dX7_town_54 : decode cX7_town 54 = .ok (.goto (-16), 3) := by decide +kernel
theorem dX7_town_57 : decode cX7_town 57 = .ok (.iconst 0, 1) := by decide +kernel
theorem dX7_town_58 : decode cX7_town 58 = .ok (.istore_n 1, 1) := by decide +kernel
theorem dX7_town_59 : decode cX7_town 59 = .ok (.iload_n 1, 1) := by decide +kernel
theorem dX7_town_60 : decode cX7_town 60 = .ok (.aload_n 0, 1) := by decide +kernel
theorem dX7_town_61 : decode cX7_town 61 = .ok (.getfield 105, 3) := by decide +kernel
theorem dX7_town_64 : decode cX7_town 64 = .ok (.if_icmp .ge 71, 3) := by decide +kernel
theorem dX7_town_67 : decode cX7_town 67 = .ok (.aload_n 0, 1) := by decide +kernel
theorem dX7_town_68 : decode cX7_town 68 = .ok (.getfield 7, 3) := by decide +kernel
theorem dX7_town_71 : decode cX7_town 71 = .ok (.iload_n 1, 1) := by decide +kernel
theorem dX7_town_72 : decode cX7_town 72 = .ok (.aload_n 0, 1) := by decide +kernel
theorem dX7_town_73 : decode cX7_town 73 = .ok (.getfield 37, 3) := by decide +kernel
theorem dX7_town_76 : decode cX7_town 76 = .ok (.iconst 4, 1) := by decide +kernel
theorem dX7_town_77 : decode cX7_town 77 = .ok (.iload_n 1, 1) := by decide +kernel
theorem dX7_town_78 : decode cX7_town 78 = .ok (.imul, 1) := by decide +kernel
theorem dX7_town_79 : decode cX7_town 79 = .ok (.iaload, 1) := by decide +kernel
theorem dX7_town_80 : decode cX7_town 80 = .ok (.iastore, 1) := by decide +kernel
theorem dX7_town_81 : decode cX7_town 81 = .ok (.aload_n 0, 1) := by decide +kernel
theorem dX7_town_82 : decode cX7_town 82 = .ok (.getfield 13, 3) := by decide +kernel
theorem dX7_town_85 : decode cX7_town 85 = .ok (.iload_n 1, 1) := by decide +kernel
theorem dX7_town_86 : decode cX7_town 86 = .ok (.aload_n 0, 1) := by decide +kernel
theorem dX7_town_87 : decode cX7_town 87 = .ok (.getfield 37, 3) := by decide +kernel
theorem dX7_town_90 : decode cX7_town 90 = .ok (.iconst 4, 1) := by decide +kernel
theorem dX7_town_91 : decode cX7_town 91 = .ok (.iload_n 1, 1) := by decide +kernel
theorem dX7_town_92 : decode cX7_town 92 = .ok (.imul, 1) := by decide +kernel
theorem dX7_town_93 : decode cX7_town 93 = .ok (.iconst 1, 1) := by decide +kernel
theorem dX7_town_94 : decode cX7_town 94 = .ok (.iadd, 1) := by decide +kernel
theorem dX7_town_95 : decode cX7_town 95 = .ok (.iaload, 1) := by decide +kernel
theorem dX7_town_96 : decode cX7_town 96 = .ok (.iastore, 1) := by decide +kernel
theorem dX7_town_97 : decode cX7_town 97 = .ok (.aload_n 0, 1) := by decide +kernel
theorem dX7_town_98 : decode cX7_town 98 = .ok (.getfield 16, 3) := by decide +kernel
theorem dX7_town_101 : decode cX7_town 101 = .ok (.iload_n 1, 1) := by decide +kernel
theorem dX7_town_102 : decode cX7_town 102 = .ok (.aload_n 0, 1) := by decide +kernel
theorem dX7_town_103 : decode cX7_town 103 = .ok (.getfield 37, 3) := by decide +kernel
theorem dX7_town_106 : decode cX7_town 106 = .ok (.iconst 4, 1) := by decide +kernel
theorem dX7_town_107 : decode cX7_town 107 = .ok (.iload_n 1, 1) := by decide +kernel
theorem dX7_town_108 : decode cX7_town 108 = .ok (.imul, 1) := by decide +kernel
theorem dX7_town_109 : decode cX7_town 109 = .ok (.iconst 2, 1) := by decide +kernel
theorem dX7_town_110 : decode cX7_town 110 = .ok (.iadd, 1) := by decide +kernel
theorem dX7_town_111 : decode cX7_town 111 = .ok (.iaload, 1) := by decide +kernel
theorem dX7_town_112 : decode cX7_town 112 = .ok (.iastore, 1) := by decide +kernel
theorem dX7_town_113 : decode cX7_town 113 = .ok (.aload_n 0, 1) := by decide +kernel
theorem dX7_town_114 : decode cX7_town 114 = .ok (.getfield 19, 3) := by decide +kernel
theorem dX7_town_117 : decode cX7_town 117 = .ok (.iload_n 1, 1) := by decide +kernel
theorem dX7_town_118 : decode cX7_town 118 = .ok (.aload_n 0, 1) := by decide +kernel
theorem dX7_town_119 : decode cX7_town 119 = .ok (.getfield 37, 3) := by decide +kernel
theorem dX7_town_122 : decode cX7_town 122 = .ok (.iconst 4, 1) := by decide +kernel
theorem dX7_town_123 : decode cX7_town 123 = .ok (.iload_n 1, 1) := by decide +kernel
theorem dX7_town_124 : decode cX7_town 124 = .ok (.imul, 1) := by decide +kernel
theorem dX7_town_125 : decode cX7_town 125 = .ok (.iconst 3, 1) := by decide +kernel
theorem dX7_town_126 : decode cX7_town 126 = .ok (.iadd, 1) := by decide +kernel
theorem dX7_town_127 : decode cX7_town 127 = .ok (.iaload, 1) := by decide +kernel
theorem dX7_town_128 : decode cX7_town 128 = .ok (.iastore, 1) := by decide +kernel
theorem dX7_town_129 : decode cX7_town 129 = .ok (.iinc 1 1, 3) := by decide +kernel
theorem dX7_town_132 : decode cX7_town 132 = .ok (.goto (-73), 3) := by decide +kernel
theorem dX7_town_135 : decode cX7_town 135 = .ok (.iconst 0, 1) := by decide +kernel
theorem dX7_town_136 : decode cX7_town 136 = .ok (.istore_n 1, 1) := by decide +kernel
theorem dX7_town_137 : decode cX7_town 137 = .ok (.iload_n 1, 1) := by decide +kernel
theorem dX7_town_138 : decode cX7_town 138 = .ok (.aload_n 0, 1) := by decide +kernel
theorem dX7_town_139 : decode cX7_town 139 = .ok (.getfield 108, 3) := by decide +kernel
theorem dX7_town_142 : decode cX7_town 142 = .ok (.if_icmp .ge 39, 3) := by decide +kernel
theorem dX7_town_145 : decode cX7_town 145 = .ok (.aload_n 0, 1) := by decide +kernel
theorem dX7_town_146 : decode cX7_town 146 = .ok (.getfield 22, 3) := by decide +kernel
theorem dX7_town_149 : decode cX7_town 149 = .ok (.iload_n 1, 1) := by decide +kernel
theorem dX7_town_150 : decode cX7_town 150 = .ok (.aload_n 0, 1) := by decide +kernel
theorem dX7_town_151 : decode cX7_town 151 = .ok (.getfield 40, 3) := by decide +kernel
theorem dX7_town_154 : decode cX7_town 154 = .ok (.iconst 2, 1) := by decide +kernel
theorem dX7_town_155 : decode cX7_town 155 = .ok (.iload_n 1, 1) := by decide +kernel
theorem dX7_town_156 : decode cX7_town 156 = .ok (.imul, 1) := by decide +kernel
theorem dX7_town_157 : decode cX7_town 157 = .ok (.iaload, 1) := by decide +kernel
theorem dX7_town_158 : decode cX7_town 158 = .ok (.iastore, 1) := by decide +kernel
theorem dX7_town_159 : decode cX7_town 159 = .ok (.aload_n 0, 1) := by decide +kernel
theorem dX7_town_160 : decode cX7_town 160 = .ok (.getfield 25, 3) := by decide +kernel
theorem dX7_town_163 : decode cX7_town 163 = .ok (.iload_n 1, 1) := by decide +kernel
theorem dX7_town_164 : decode cX7_town 164 = .ok (.aload_n 0, 1) := by decide +kernel
theorem dX7_town_165 : decode cX7_town 165 = .ok (.getfield 40, 3) := by decide +kernel
theorem dX7_town_168 : decode cX7_town 168 = .ok (.iconst 2, 1) := by decide +kernel
theorem dX7_town_169 : decode cX7_town 169 = .ok (.iload_n 1, 1) := by decide +kernel
theorem dX7_town_170 : decode cX7_town 170 = .ok (.imul, 1) := by decide +kernel
theorem dX7_town_171 : decode cX7_town 171 = .ok (.iconst 1, 1) := by decide +kernel
theorem dX7_town_172 : decode cX7_town 172 = .ok (.iadd, 1) := by decide +kernel
theorem dX7_town_173 : decode cX7_town 173 = .ok (.iaload, 1) := by decide +kernel
theorem dX7_town_174 : decode cX7_town 174 = .ok (.iastore, 1) := by decide +kernel
theorem dX7_town_175 : decode cX7_town 175 = .ok (.iinc 1 1, 3) := by decide +kernel
theorem dX7_town_178 : decode cX7_town 178 = .ok (.goto (-41), 3) := by decide +kernel
theorem dX7_town_181 : decode cX7_town 181 = .ok (.iconst 0, 1) := by decide +kernel
theorem dX7_town_182 : decode cX7_town 182 = .ok (.istore_n 1, 1) := by decide +kernel
theorem dX7_town_183 : decode cX7_town 183 = .ok (.iload_n 1, 1) := by decide +kernel
theorem dX7_town_184 : decode cX7_town 184 = .ok (.aload_n 0, 1) := by decide +kernel
theorem dX7_town_185 : decode cX7_town 185 = .ok (.getfield 111, 3) := by decide +kernel
theorem dX7_town_188 : decode cX7_town 188 = .ok (.if_icmp .ge 39, 3) := by decide +kernel
theorem dX7_town_191 : decode cX7_town 191 = .ok (.aload_n 0, 1) := by decide +kernel
theorem dX7_town_192 : decode cX7_town 192 = .ok (.getfield 28, 3) := by decide +kernel
theorem dX7_town_195 : decode cX7_town 195 = .ok (.iload_n 1, 1) := by decide +kernel
theorem dX7_town_196 : decode cX7_town 196 = .ok (.aload_n 0, 1) := by decide +kernel
theorem dX7_town_197 : decode cX7_town 197 = .ok (.getfield 43, 3) := by decide +kernel
theorem dX7_town_200 : decode cX7_town 200 = .ok (.iconst 2, 1) := by decide +kernel
theorem dX7_town_201 : decode cX7_town 201 = .ok (.iload_n 1, 1) := by decide +kernel
theorem dX7_town_202 : decode cX7_town 202 = .ok (.imul, 1) := by decide +kernel
theorem dX7_town_203 : decode cX7_town 203 = .ok (.iaload, 1) := by decide +kernel
theorem dX7_town_204 : decode cX7_town 204 = .ok (.iastore, 1) := by decide +kernel
theorem dX7_town_205 : decode cX7_town 205 = .ok (.aload_n 0, 1) := by decide +kernel
theorem dX7_town_206 : decode cX7_town 206 = .ok (.getfield 31, 3) := by decide +kernel
theorem dX7_town_209 : decode cX7_town 209 = .ok (.iload_n 1, 1) := by decide +kernel
theorem dX7_town_210 : decode cX7_town 210 = .ok (.aload_n 0, 1) := by decide +kernel
theorem dX7_town_211 : decode cX7_town 211 = .ok (.getfield 43, 3) := by decide +kernel
theorem dX7_town_214 : decode cX7_town 214 = .ok (.iconst 2, 1) := by decide +kernel
theorem dX7_town_215 : decode cX7_town 215 = .ok (.iload_n 1, 1) := by decide +kernel
theorem dX7_town_216 : decode cX7_town 216 = .ok (.imul, 1) := by decide +kernel
theorem dX7_town_217 : decode cX7_town 217 = .ok (.iconst 1, 1) := by decide +kernel
theorem dX7_town_218 : decode cX7_town 218 = .ok (.iadd, 1) := by decide +kernel
theorem dX7_town_219 : decode cX7_town 219 = .ok (.iaload, 1) := by decide +kernel
theorem dX7_town_220 : decode cX7_town 220 = .ok (.iastore, 1) := by decide +kernel
theorem dX7_town_221 : decode cX7_town 221 = .ok (.iinc 1 1, 3) := by decide +kernel
theorem dX7_town_224 : decode cX7_town 224 = .ok (.goto (-41), 3) := by decide +kernel
theorem dX7_town_227 : decode cX7_town 227 = .ok (.aload_n 0, 1) := by decide +kernel
theorem dX7_town_228 : decode cX7_town 228 = .ok (.iconst 0, 1) := by decide +kernel
theorem dX7_town_229 : decode cX7_town 229 = .ok (.putfield 114, 3) := by decide +kernel
theorem dX7_town_232 : decode cX7_town 232 = .ok (.aload_n 0, 1) := by decide +kernel
theorem dX7_town_233 : decode cX7_town 233 = .ok (.getfield 61, 3) := by decide +kernel
theorem dX7_town_236 : decode cX7_town 236 = .ok (.iconst 0, 1) := by decide +kernel
theorem dX7_town_237 : decode cX7_town 237 = .ok (.iconst 0, 1) := by decide +kernel
theorem dX7_town_238 : decode cX7_town 238 = .ok (.bastore, 1) := by decide +kernel
theorem dX7_town_239 : decode cX7_town 239 = .ok (.aload_n 0, 1) := by decide +kernel
theorem dX7_town_240 : decode cX7_town 240 = .ok (.getfield 61, 3) := by decide +kernel
theorem dX7_town_243 : decode cX7_town 243 = .ok (.iconst 1, 1) := by decide +kernel
theorem dX7_town_244 : decode cX7_town 244 = .ok (.iconst 0, 1) := by decide +kernel
theorem dX7_town_245 : decode cX7_town 245 = .ok (.bastore, 1) := by decide +kernel
theorem dX7_town_246 : decode cX7_town 246 = .ok (.bipush 100, 2) := by decide +kernel
theorem dX7_town_248 : decode cX7_town 248 = .ok (.aload_n 0, 1) := by decide +kernel
theorem dX7_town_249 : decode cX7_town 249 = .ok (.getfield 105, 3) := by decide +kernel
theorem dX7_town_252 : decode cX7_town 252 = .ok (.imul, 1) := by decide +kernel
theorem dX7_town_253 : decode cX7_town 253 = .ok (.bipush 10, 2) := by decide +kernel
theorem dX7_town_255 : decode cX7_town 255 = .ok (.aload_n 0, 1) := by decide +kernel
theorem dX7_town_256 : decode cX7_town 256 = .ok (.getfield 108, 3) := by decide +kernel
theorem dX7_town_259 : decode cX7_town 259 = .ok (.imul, 1) := by decide +kernel
theorem dX7_town_260 : decode cX7_town 260 = .ok (.iadd, 1) := by decide +kernel
theorem dX7_town_261 : decode cX7_town 261 = .ok (.aload_n 0, 1) := by decide +kernel
theorem dX7_town_262 : decode cX7_town 262 = .ok (.getfield 111, 3) := by decide +kernel
theorem dX7_town_265 : decode cX7_town 265 = .ok (.iadd, 1) := by decide +kernel
theorem dX7_town_266 : decode cX7_town 266 = .ok (.ireturn, 1) := by decide +kernel
theorem dX7_isPin_0 : decode cX7_isPin 0 = .ok (.iload_n 1, 1) := by decide +kernel
theorem dX7_isPin_1 : decode cX7_isPin 1 = .ok (.i2l, 1) := by decide +kernel
theorem dX7_isPin_2 : decode cX7_isPin 2 = .ok (.lconst 0, 1) := by decide +kernel
theorem dX7_isPin_3 : decode cX7_isPin 3 = .ok (.aload_n 0, 1) := by decide +kernel
theorem dX7_isPin_4 : decode cX7_isPin 4 = .ok (.getfield 105, 3) := by decide +kernel
theorem dX7_isPin_7 : decode cX7_isPin 7 = .ok (.iconst 1, 1) := by decide +kernel
theorem dX7_isPin_8 : decode cX7_isPin 8 = .ok (.isub, 1) := by decide +kernel
theorem dX7_isPin_9 : decode cX7_isPin 9 = .ok (.i2l, 1) := by decide +kernel
theorem dX7_isPin_10 : decode cX7_isPin 10 = .ok (.invokestatic 70, 3) := by decide +kernel
theorem dX7_isPin_13 : decode cX7_isPin 13 = .ok (.ireturn, 1) := by decide +kernel
theorem dX7_isThing_0 : decode cX7_isThing 0 = .ok (.iload_n 0, 1) := by decide +kernel
theorem dX7_isThing_1 : decode cX7_isThing 1 = .ok (.i2l, 1) := by decide +kernel
theorem dX7_isThing_2 : decode cX7_isThing 2 = .ok (.lconst 0, 1) := by decide +kernel
theorem dX7_isThing_3 : decode cX7_isThing 3 = .ok (.ldc2_w 117, 3) := by decide +kernel
theorem dX7_isThing_6 : decode cX7_isThing 6 = .ok (.invokestatic 70, 3) := by decide +kernel
theorem dX7_isThing_9 : decode cX7_isThing 9 = .ok (.ireturn, 1) := by decide +kernel
theorem dX7_all_0 : decode cX7_all 0 = .ok (.iconst 1, 1) := by decide +kernel
theorem dX7_all_1 : decode cX7_all 1 = .ok (.aload_n 0, 1) := by decide +kernel
theorem dX7_all_2 : decode cX7_all 2 = .ok (.getfield 105, 3) := by decide +kernel
theorem dX7_all_5 : decode cX7_all 5 = .ok (.ishl, 1) := by decide +kernel
theorem dX7_all_6 : decode cX7_all 6 = .ok (.iconst 1, 1) := by decide +kernel
theorem dX7_all_7 : decode cX7_all 7 = .ok (.isub, 1) := by decide +kernel
theorem dX7_all_8 : decode cX7_all 8 = .ok (.ireturn, 1) := by decide +kernel
theorem dX7_withBy_0 : decode cX7_withBy 0 = .ok (.iconst 1, 1) := by decide +kernel
theorem dX7_withBy_1 : decode cX7_withBy 1 = .ok (.iload_n 1, 1) := by decide +kernel
theorem dX7_withBy_2 : decode cX7_withBy 2 = .ok (.ishl, 1) := by decide +kernel
theorem dX7_withBy_3 : decode cX7_withBy 3 = .ok (.istore_n 3, 1) := by decide +kernel
theorem dX7_withBy_4 : decode cX7_withBy 4 = .ok (.iconst 0, 1) := by decide +kernel
theorem dX7_withBy_5 : decode cX7_withBy 5 = .ok (.istore 4, 2) := by decide +kernel
theorem dX7_withBy_7 : decode cX7_withBy 7 = .ok (.iload 4, 2) := by decide +kernel
theorem dX7_withBy_9 : decode cX7_withBy 9 = .ok (.bipush 6, 2) := by decide +kernel
theorem dX7_withBy_11 : decode cX7_withBy 11 = .ok (.if_icmp .ge 102, 3) := by decide +kernel
theorem dX7_withBy_14 : decode cX7_withBy 14 = .ok (.iconst 0, 1) := by decide +kernel
theorem dX7_withBy_15 : decode cX7_withBy 15 = .ok (.istore 5, 2) := by decide +kernel
theorem dX7_withBy_17 : decode cX7_withBy 17 = .ok (.iload 5, 2) := by decide +kernel
theorem dX7_withBy_19 : decode cX7_withBy 19 = .ok (.aload_n 0, 1) := by decide +kernel
theorem dX7_withBy_20 : decode cX7_withBy 20 = .ok (.getfield 105, 3) := by decide +kernel
theorem dX7_withBy_23 : decode cX7_withBy 23 = .ok (.if_icmp .ge 84, 3) := by decide +kernel
theorem dX7_withBy_26 : decode cX7_withBy 26 = .ok (.iload_n 2, 1) := by decide +kernel
theorem dX7_withBy_27 : decode cX7_withBy 27 = .ok (.iload 5, 2) := by decide +kernel
theorem dX7_withBy_29 : decode cX7_withBy 29 = .ok (.invokestatic 119, 3) := by decide +kernel
theorem dX7_withBy_32 : decode cX7_withBy 32 = .ok (.ifCond .ne 35, 3) := by decide +kernel
theorem dX7_withBy_35 : decode cX7_withBy 35 = .ok (.iload_n 3, 1) := by decide +kernel
theorem dX7_withBy_36 : decode cX7_withBy 36 = .ok (.aload_n 0, 1) := by decide +kernel
theorem dX7_withBy_37 : decode cX7_withBy 37 = .ok (.getfield 7, 3) := by decide +kernel
theorem dX7_withBy_40 : decode cX7_withBy 40 = .ok (.iload 5, 2) := by decide +kernel
theorem dX7_withBy_42 : decode cX7_withBy 42 = .ok (.iaload, 1) := by decide +kernel
theorem dX7_withBy_43 : decode cX7_withBy 43 = .ok (.invokestatic 119, 3) := by decide +kernel
theorem dX7_withBy_46 : decode cX7_withBy 46 = .ok (.ifCond .ne 17, 3) := by decide +kernel
theorem dX7_withBy_49 : decode cX7_withBy 49 = .ok (.iload_n 3, 1) := by decide +kernel
theorem dX7_withBy_50 : decode cX7_withBy 50 = .ok (.aload_n 0, 1) := by decide +kernel
theorem dX7_withBy_51 : decode cX7_withBy 51 = .ok (.getfield 13, 3) := by decide +kernel
theorem dX7_withBy_54 : decode cX7_withBy 54 = .ok (.iload 5, 2) := by decide +kernel
theorem dX7_withBy_56 : decode cX7_withBy 56 = .ok (.iaload, 1) := by decide +kernel
theorem dX7_withBy_57 : decode cX7_withBy 57 = .ok (.invokestatic 119, 3) := by decide +kernel
theorem dX7_withBy_60 : decode cX7_withBy 60 = .ok (.ifCond .eq 7, 3) := by decide +kernel
theorem dX7_withBy_63 : decode cX7_withBy 63 = .ok (.iconst 1, 1) := by decide +kernel
theorem dX7_withBy_64 : decode cX7_withBy 64 = .ok (.goto 4, 3) := by decide +kernel
theorem dX7_withBy_67 : decode cX7_withBy 67 = .ok (.iconst 0, 1) := by decide +kernel
theorem dX7_withBy_68 : decode cX7_withBy 68 = .ok (.istore 6, 2) := by decide +kernel
theorem dX7_withBy_70 : decode cX7_withBy 70 = .ok (.iload_n 3, 1) := by decide +kernel
theorem dX7_withBy_71 : decode cX7_withBy 71 = .ok (.iload 6, 2) := by decide +kernel
theorem dX7_withBy_73 : decode cX7_withBy 73 = .ok (.ifCond .eq 25, 3) := by decide +kernel
theorem dX7_withBy_76 : decode cX7_withBy 76 = .ok (.iconst 1, 1) := by decide +kernel
theorem dX7_withBy_77 : decode cX7_withBy 77 = .ok (.aload_n 0, 1) := by decide +kernel
theorem dX7_withBy_78 : decode cX7_withBy 78 = .ok (.getfield 7, 3) := by decide +kernel
theorem dX7_withBy_81 : decode cX7_withBy 81 = .ok (.iload 5, 2) := by decide +kernel
theorem dX7_withBy_83 : decode cX7_withBy 83 = .ok (.iaload, 1) := by decide +kernel
theorem dX7_withBy_84 : decode cX7_withBy 84 = .ok (.ishl, 1) := by decide +kernel
theorem dX7_withBy_85 : decode cX7_withBy 85 = .ok (.iconst 1, 1) := by decide +kernel
theorem dX7_withBy_86 : decode cX7_withBy 86 = .ok (.aload_n 0, 1) := by decide +kernel
theorem dX7_withBy_87 : decode cX7_withBy 87 = .ok (.getfield 13, 3) := by decide +kernel
theorem dX7_withBy_90 : decode cX7_withBy 90 = .ok (.iload 5, 2) := by decide +kernel
theorem dX7_withBy_92 : decode cX7_withBy 92 = .ok (.iaload, 1) := by decide +kernel
theorem dX7_withBy_93 : decode cX7_withBy 93 = .ok (.ishl, 1) := by decide +kernel
theorem dX7_withBy_94 : decode cX7_withBy 94 = .ok (.ior, 1) := by decide +kernel
theorem dX7_withBy_95 : decode cX7_withBy 95 = .ok (.goto 4, 3) := by decide +kernel
theorem dX7_withBy_98 : decode cX7_withBy 98 = .ok (.iconst 0, 1) := by decide +kernel
theorem dX7_withBy_99 : decode cX7_withBy 99 = .ok (.ior, 1) := by decide +kernel
theorem dX7_withBy_100 : decode cX7_withBy 100 = .ok (.istore_n 3, 1) := by decide +kernel
theorem dX7_withBy_101 : decode cX7_withBy 101 = .ok (.iinc 5 1, 3) := by decide +kernel
theorem dX7_withBy_104 : decode cX7_withBy 104 = .ok (.goto (-87), 3) := by decide +kernel
theorem dX7_withBy_107 : decode cX7_withBy 107 = .ok (.iinc 4 1, 3) := by decide +kernel
theorem dX7_withBy_110 : decode cX7_withBy 110 = .ok (.goto (-103), 3) := by decide +kernel
theorem dX7_withBy_113 : decode cX7_withBy 113 = .ok (.iload_n 3, 1) := by decide +kernel
theorem dX7_withBy_114 : decode cX7_withBy 114 = .ok (.ireturn, 1) := by decide +kernel
theorem dX7_isTogether_0 : decode cX7_isTogether 0 = .ok (.aload_n 0, 1) := by decide +kernel
theorem dX7_isTogether_1 : decode cX7_isTogether 1 = .ok (.iload_n 1, 1) := by decide +kernel
theorem dX7_isTogether_2 : decode cX7_isTogether 2 = .ok (.iload_n 3, 1) := by decide +kernel
theorem dX7_isTogether_3 : decode cX7_isTogether 3 = .ok (.invokevirtual 123, 3) := by decide +kernel
theorem dX7_isTogether_6 : decode cX7_isTogether 6 = .ok (.iload_n 2, 1) := by decide +kernel
theorem dX7_isTogether_7 : decode cX7_isTogether 7 = .ok (.invokestatic 119, 3) := by decide +kernel
theorem dX7_isTogether_10 : decode cX7_isTogether 10 = .ok (.ireturn, 1) := by decide +kernel
theorem dX7_pairsBy_0 : decode cX7_pairsBy 0 = .ok (.iconst 0, 1) := by decide +kernel
theorem dX7_pairsBy_1 : decode cX7_pairsBy 1 = .ok (.istore_n 2, 1) := by decide +kernel
theorem dX7_pairsBy_2 : decode cX7_pairsBy 2 = .ok (.iconst 0, 1) := by decide +kernel
theorem dX7_pairsBy_3 : decode cX7_pairsBy 3 = .ok (.istore_n 3, 1) := by decide +kernel
theorem dX7_pairsBy_4 : decode cX7_pairsBy 4 = .ok (.iload_n 3, 1) := by decide +kernel
theorem dX7_pairsBy_5 : decode cX7_pairsBy 5 = .ok (.bipush 6, 2) := by decide +kernel
theorem dX7_pairsBy_7 : decode cX7_pairsBy 7 = .ok (.if_icmp .ge 46, 3) := by decide +kernel
theorem dX7_pairsBy_10 : decode cX7_pairsBy 10 = .ok (.iload_n 3, 1) := by decide +kernel
theorem dX7_pairsBy_11 : decode cX7_pairsBy 11 = .ok (.iconst 1, 1) := by decide +kernel
theorem dX7_pairsBy_12 : decode cX7_pairsBy 12 = .ok (.iadd, 1) := by decide +kernel
theorem dX7_pairsBy_13 : decode cX7_pairsBy 13 = .ok (.istore 4, 2) := by decide +kernel
theorem dX7_pairsBy_15 : decode cX7_pairsBy 15 = .ok (.iload 4, 2) := by decide +kernel
theorem dX7_pairsBy_17 : decode cX7_pairsBy 17 = .ok (.bipush 6, 2) := by decide +kernel
theorem dX7_pairsBy_19 : decode cX7_pairsBy 19 = .ok (.if_icmp .ge 28, 3) := by decide +kernel
theorem dX7_pairsBy_22 : decode cX7_pairsBy 22 = .ok (.iload_n 2, 1) := by decide +kernel
theorem dX7_pairsBy_23 : decode cX7_pairsBy 23 = .ok (.aload_n 0, 1) := by decide +kernel
theorem dX7_pairsBy_24 : decode cX7_pairsBy 24 = .ok (.iload_n 3, 1) := by decide +kernel
theorem dX7_pairsBy_25 : decode cX7_pairsBy 25 = .ok (.iload 4, 2) := by decide +kernel
theorem dX7_pairsBy_27 : decode cX7_pairsBy 27 = .ok (.iload_n 1, 1) := by decide +kernel
theorem dX7_pairsBy_28 : decode cX7_pairsBy 28 = .ok (.invokevirtual 126, 3) := by decide +kernel
theorem dX7_pairsBy_31 : decode cX7_pairsBy 31 = .ok (.ifCond .eq 7, 3) := by decide +kernel
theorem dX7_pairsBy_34 : decode cX7_pairsBy 34 = .ok (.iconst 1, 1) := by decide +kernel
theorem dX7_pairsBy_35 : decode cX7_pairsBy 35 = .ok (.goto 4, 3) := by decide +kernel
theorem dX7_pairsBy_38 : decode cX7_pairsBy 38 = .ok (.iconst 0, 1) := by decide +kernel
theorem dX7_pairsBy_39 : decode cX7_pairsBy 39 = .ok (.iadd, 1) := by decide +kernel
theorem dX7_pairsBy_40 : decode cX7_pairsBy 40 = .ok (.istore_n 2, 1) := by decide +kernel
theorem dX7_pairsBy_41 : decode cX7_pairsBy 41 = .ok (.iinc 4 1, 3) := by decide +kernel
theorem dX7_pairsBy_44 : decode cX7_pairsBy 44 = .ok (.goto (-29), 3) := by decide +kernel
theorem dX7_pairsBy_47 : decode cX7_pairsBy 47 = .ok (.iinc 3 1, 3) := by decide +kernel
theorem dX7_pairsBy_50 : decode cX7_pairsBy 50 = .ok (.goto (-46), 3) := by decide +kernel
theorem dX7_pairsBy_53 : decode cX7_pairsBy 53 = .ok (.iload_n 2, 1) := by decide +kernel
theorem dX7_pairsBy_54 : decode cX7_pairsBy 54 = .ok (.ireturn, 1) := by decide +kernel
theorem dX7_doableBy_0 : decode cX7_doableBy 0 = .ok (.iconst 0, 1) := by decide +kernel
theorem dX7_doableBy_1 : decode cX7_doableBy 1 = .ok (.istore_n 2, 1) := by decide +kernel
theorem dX7_doableBy_2 : decode cX7_doableBy 2 = .ok (.iconst 0, 1) := by decide +kernel
theorem dX7_doableBy_3 : decode cX7_doableBy 3 = .ok (.istore_n 3, 1) := by decide +kernel
theorem dX7_doableBy_4 : decode cX7_doableBy 4 = .ok (.iload_n 3, 1) := by decide +kernel
theorem dX7_doableBy_5 : decode cX7_doableBy 5 = .ok (.aload_n 0, 1) := by decide +kernel
theorem dX7_doableBy_6 : decode cX7_doableBy 6 = .ok (.getfield 111, 3) := by decide +kernel
theorem dX7_doableBy_9 : decode cX7_doableBy 9 = .ok (.if_icmp .ge 39, 3) := by decide +kernel
theorem dX7_doableBy_12 : decode cX7_doableBy 12 = .ok (.iload_n 2, 1) := by decide +kernel
theorem dX7_doableBy_13 : decode cX7_doableBy 13 = .ok (.aload_n 0, 1) := by decide +kernel
theorem dX7_doableBy_14 : decode cX7_doableBy 14 = .ok (.aload_n 0, 1) := by decide +kernel
theorem dX7_doableBy_15 : decode cX7_doableBy 15 = .ok (.getfield 28, 3) := by decide +kernel
theorem dX7_doableBy_18 : decode cX7_doableBy 18 = .ok (.iload_n 3, 1) := by decide +kernel
theorem dX7_doableBy_19 : decode cX7_doableBy 19 = .ok (.iaload, 1) := by decide +kernel
theorem dX7_doableBy_20 : decode cX7_doableBy 20 = .ok (.aload_n 0, 1) := by decide +kernel
theorem dX7_doableBy_21 : decode cX7_doableBy 21 = .ok (.getfield 31, 3) := by decide +kernel
theorem dX7_doableBy_24 : decode cX7_doableBy 24 = .ok (.iload_n 3, 1) := by decide +kernel
theorem dX7_doableBy_25 : decode cX7_doableBy 25 = .ok (.iaload, 1) := by decide +kernel
theorem dX7_doableBy_26 : decode cX7_doableBy 26 = .ok (.iload_n 1, 1) := by decide +kernel
theorem dX7_doableBy_27 : decode cX7_doableBy 27 = .ok (.invokevirtual 126, 3) := by decide +kernel
theorem dX7_doableBy_30 : decode cX7_doableBy 30 = .ok (.ifCond .eq 7, 3) := by decide +kernel
theorem dX7_doableBy_33 : decode cX7_doableBy 33 = .ok (.iconst 0, 1) := by decide +kernel
theorem dX7_doableBy_34 : decode cX7_doableBy 34 = .ok (.goto 6, 3) := by decide +kernel
theorem dX7_doableBy_37 : decode cX7_doableBy 37 = .ok (.iconst 1, 1) := by decide +kernel
theorem dX7_doableBy_38 : decode cX7_doableBy 38 = .ok (.iload_n 3, 1) := by decide +kernel
theorem dX7_doableBy_39 : decode cX7_doableBy 39 = .ok (.ishl, 1) := by decide +kernel
theorem dX7_doableBy_40 : decode cX7_doableBy 40 = .ok (.ior, 1) := by decide +kernel
theorem dX7_doableBy_41 : decode cX7_doableBy 41 = .ok (.istore_n 2, 1) := by decide +kernel
theorem dX7_doableBy_42 : decode cX7_doableBy 42 = .ok (.iinc 3 1, 3) := by decide +kernel
theorem dX7_doableBy_45 : decode cX7_doableBy 45 = .ok (.goto (-41), 3) := by decide +kernel
theorem dX7_doableBy_48 : decode cX7_doableBy 48 = .ok (.iload_n 2, 1) := by decide +kernel
theorem dX7_doableBy_49 : decode cX7_doableBy 49 = .ok (.ireturn, 1) := by decide +kernel
theorem dX7_unload_0 : decode cX7_unload 0 = .ok (.iconst 0, 1) := by decide +kernel
theorem dX7_unload_1 : decode cX7_unload 1 = .ok (.istore_n 1, 1) := by decide +kernel
theorem dX7_unload_2 : decode cX7_unload 2 = .ok (.iload_n 1, 1) := by decide +kernel
theorem dX7_unload_3 : decode cX7_unload 3 = .ok (.bipush 6, 2) := by decide +kernel
theorem dX7_unload_5 : decode cX7_unload 5 = .ok (.if_icmp .ge 16, 3) := by decide +kernel
theorem dX7_unload_8 : decode cX7_unload 8 = .ok (.aload_n 0, 1) := by decide +kernel
theorem dX7_unload_9 : decode cX7_unload 9 = .ok (.getfield 49, 3) := by decide +kernel
theorem dX7_unload_12 : decode cX7_unload 12 = .ok (.iload_n 1, 1) := by decide +kernel
theorem dX7_unload_13 : decode cX7_unload 13 = .ok (.iconst 0, 1) := by decide +kernel
theorem dX7_unload_14 : decode cX7_unload 14 = .ok (.iastore, 1) := by decide +kernel
theorem dX7_unload_15 : decode cX7_unload 15 = .ok (.iinc 1 1, 3) := by decide +kernel
theorem dX7_unload_18 : decode cX7_unload 18 = .ok (.goto (-16), 3) := by decide +kernel
theorem dX7_unload_21 : decode cX7_unload 21 = .ok (.return_, 1) := by decide +kernel
theorem dX7_holdsOn_0 : decode cX7_holdsOn 0 = .ok (.aload_n 0, 1) := by decide +kernel
theorem dX7_holdsOn_1 : decode cX7_holdsOn 1 = .ok (.getfield 16, 3) := by decide +kernel
theorem dX7_holdsOn_4 : decode cX7_holdsOn 4 = .ok (.iload_n 2, 1) := by decide +kernel
theorem dX7_holdsOn_5 : decode cX7_holdsOn 5 = .ok (.iaload, 1) := by decide +kernel
theorem dX7_holdsOn_6 : decode cX7_holdsOn 6 = .ok (.aload_n 0, 1) := by decide +kernel
theorem dX7_holdsOn_7 : decode cX7_holdsOn 7 = .ok (.getfield 34, 3) := by decide +kernel
theorem dX7_holdsOn_10 : decode cX7_holdsOn 10 = .ok (.bipush 9, 2) := by decide +kernel
theorem dX7_holdsOn_12 : decode cX7_holdsOn 12 = .ok (.iload_n 1, 1) := by decide +kernel
theorem dX7_holdsOn_13 : decode cX7_holdsOn 13 = .ok (.imul, 1) := by decide +kernel
theorem dX7_holdsOn_14 : decode cX7_holdsOn 14 = .ok (.iconst 1, 1) := by decide +kernel
theorem dX7_holdsOn_15 : decode cX7_holdsOn 15 = .ok (.iadd, 1) := by decide +kernel
theorem dX7_holdsOn_16 : decode cX7_holdsOn 16 = .ok (.iload_n 2, 1) := by decide +kernel
theorem dX7_holdsOn_17 : decode cX7_holdsOn 17 = .ok (.iadd, 1) := by decide +kernel
theorem dX7_holdsOn_18 : decode cX7_holdsOn 18 = .ok (.iaload, 1) := by decide +kernel
theorem dX7_holdsOn_19 : decode cX7_holdsOn 19 = .ok (.isub, 1) := by decide +kernel
theorem dX7_holdsOn_20 : decode cX7_holdsOn 20 = .ok (.istore_n 3, 1) := by decide +kernel
theorem dX7_holdsOn_21 : decode cX7_holdsOn 21 = .ok (.aload_n 0, 1) := by decide +kernel
theorem dX7_holdsOn_22 : decode cX7_holdsOn 22 = .ok (.getfield 19, 3) := by decide +kernel
theorem dX7_holdsOn_25 : decode cX7_holdsOn 25 = .ok (.iload_n 2, 1) := by decide +kernel
theorem dX7_holdsOn_26 : decode cX7_holdsOn 26 = .ok (.iaload, 1) := by decide +kernel
theorem dX7_holdsOn_27 : decode cX7_holdsOn 27 = .ok (.iconst 1, 1) := by decide +kernel
theorem dX7_holdsOn_28 : decode cX7_holdsOn 28 = .ok (.if_icmp .ne 14, 3) := by decide +kernel
theorem dX7_holdsOn_31 : decode cX7_holdsOn 31 = .ok (.aload_n 0, 1) := by decide +kernel
theorem dX7_holdsOn_32 : decode cX7_holdsOn 32 = .ok (.getfield 16, 3) := by decide +kernel
theorem dX7_holdsOn_35 : decode cX7_holdsOn 35 = .ok (.iload_n 2, 1) := by decide +kernel
theorem dX7_holdsOn_36 : decode cX7_holdsOn 36 = .ok (.iaload, 1) := by decide +kernel
theorem dX7_holdsOn_37 : decode cX7_holdsOn 37 = .ok (.iconst 3, 1) := by decide +kernel
theorem dX7_holdsOn_38 : decode cX7_holdsOn 38 = .ok (.iadd, 1) := by decide +kernel
theorem dX7_holdsOn_39 : decode cX7_holdsOn 39 = .ok (.goto 31, 3) := by decide +kernel
theorem dX7_holdsOn_42 : decode cX7_holdsOn 42 = .ok (.aload_n 0, 1) := by decide +kernel
theorem dX7_holdsOn_43 : decode cX7_holdsOn 43 = .ok (.getfield 19, 3) := by decide +kernel
theorem dX7_holdsOn_46 : decode cX7_holdsOn 46 = .ok (.iload_n 2, 1) := by decide +kernel
theorem dX7_holdsOn_47 : decode cX7_holdsOn 47 = .ok (.iaload, 1) := by decide +kernel
theorem dX7_holdsOn_48 : decode cX7_holdsOn 48 = .ok (.iconst 2, 1) := by decide +kernel
theorem dX7_holdsOn_49 : decode cX7_holdsOn 49 = .ok (.if_icmp .eq 12, 3) := by decide +kernel
theorem dX7_holdsOn_52 : decode cX7_holdsOn 52 = .ok (.aload_n 0, 1) := by decide +kernel
theorem dX7_holdsOn_53 : decode cX7_holdsOn 53 = .ok (.getfield 16, 3) := by decide +kernel
theorem dX7_holdsOn_56 : decode cX7_holdsOn 56 = .ok (.iload_n 2, 1) := by decide +kernel
theorem dX7_holdsOn_57 : decode cX7_holdsOn 57 = .ok (.iaload, 1) := by decide +kernel
theorem dX7_holdsOn_58 : decode cX7_holdsOn 58 = .ok (.goto 12, 3) := by decide +kernel
theorem dX7_holdsOn_61 : decode cX7_holdsOn 61 = .ok (.iload_n 3, 1) := by decide +kernel
theorem dX7_holdsOn_62 : decode cX7_holdsOn 62 = .ok (.ifCond .ge 7, 3) := by decide +kernel
theorem dX7_holdsOn_65 : decode cX7_holdsOn 65 = .ok (.iconst 0, 1) := by decide +kernel
theorem dX7_holdsOn_66 : decode cX7_holdsOn 66 = .ok (.goto 4, 3) := by decide +kernel
theorem dX7_holdsOn_69 : decode cX7_holdsOn 69 = .ok (.iload_n 3, 1) := by decide +kernel
theorem dX7_holdsOn_70 : decode cX7_holdsOn 70 = .ok (.ireturn, 1) := by decide +kernel
theorem dX7_onBoth_0 : decode cX7_onBoth 0 = .ok (.aload_n 0, 1) := by decide +kernel
theorem dX7_onBoth_1 : decode cX7_onBoth 1 = .ok (.getfield 49, 3) := by decide +kernel
theorem dX7_onBoth_4 : decode cX7_onBoth 4 = .ok (.aload_n 0, 1) := by decide +kernel
theorem dX7_onBoth_5 : decode cX7_onBoth 5 = .ok (.getfield 7, 3) := by decide +kernel
theorem dX7_onBoth_8 : decode cX7_onBoth 8 = .ok (.iload_n 1, 1) := by decide +kernel
theorem dX7_onBoth_9 : decode cX7_onBoth 9 = .ok (.iaload, 1) := by decide +kernel
theorem dX7_onBoth_10 : decode cX7_onBoth 10 = .ok (.iaload, 1) := by decide +kernel
theorem dX7_onBoth_11 : decode cX7_onBoth 11 = .ok (.aload_n 0, 1) := by decide +kernel
theorem dX7_onBoth_12 : decode cX7_onBoth 12 = .ok (.getfield 49, 3) := by decide +kernel
theorem dX7_onBoth_15 : decode cX7_onBoth 15 = .ok (.aload_n 0, 1) := by decide +kernel
theorem dX7_onBoth_16 : decode cX7_onBoth 16 = .ok (.getfield 13, 3) := by decide +kernel
theorem dX7_onBoth_19 : decode cX7_onBoth 19 = .ok (.iload_n 1, 1) := by decide +kernel
theorem dX7_onBoth_20 : decode cX7_onBoth 20 = .ok (.iaload, 1) := by decide +kernel
theorem dX7_onBoth_21 : decode cX7_onBoth 21 = .ok (.iaload, 1) := by decide +kernel
theorem dX7_onBoth_22 : decode cX7_onBoth 22 = .ok (.iadd, 1) := by decide +kernel
theorem dX7_onBoth_23 : decode cX7_onBoth 23 = .ok (.ireturn, 1) := by decide +kernel
theorem dX7_ping_0 : decode cX7_ping 0 = .ok (.iconst 0, 1) := by decide +kernel
theorem dX7_ping_1 : decode cX7_ping 1 = .ok (.istore_n 2, 1) := by decide +kernel
theorem dX7_ping_2 : decode cX7_ping 2 = .ok (.iconst 1, 1) := by decide +kernel
theorem dX7_ping_3 : decode cX7_ping 3 = .ok (.istore_n 3, 1) := by decide +kernel
theorem dX7_ping_4 : decode cX7_ping 4 = .ok (.iload_n 3, 1) := by decide +kernel
theorem dX7_ping_5 : decode cX7_ping 5 = .ok (.ifCond .eq 166, 3) := by decide +kernel
theorem dX7_ping_8 : decode cX7_ping 8 = .ok (.iconst 0, 1) := by decide +kernel
theorem dX7_ping_9 : decode cX7_ping 9 = .ok (.istore_n 3, 1) := by decide +kernel
theorem dX7_ping_10 : decode cX7_ping 10 = .ok (.iconst 0, 1) := by decide +kernel
theorem dX7_ping_11 : decode cX7_ping 11 = .ok (.istore 4, 2) := by decide +kernel
theorem dX7_ping_13 : decode cX7_ping 13 = .ok (.iload 4, 2) := by decide +kernel
theorem dX7_ping_15 : decode cX7_ping 15 = .ok (.aload_n 0, 1) := by decide +kernel
theorem dX7_ping_16 : decode cX7_ping 16 = .ok (.getfield 105, 3) := by decide +kernel
theorem dX7_ping_19 : decode cX7_ping 19 = .ok (.if_icmp .ge 53, 3) := by decide +kernel
theorem dX7_ping_22 : decode cX7_ping 22 = .ok (.iload_n 3, 1) := by decide +kernel
theorem dX7_ping_23 : decode cX7_ping 23 = .ok (.aload_n 0, 1) := by decide +kernel
theorem dX7_ping_24 : decode cX7_ping 24 = .ok (.getfield 34, 3) := by decide +kernel
theorem dX7_ping_27 : decode cX7_ping 27 = .ok (.bipush 9, 2) := by decide +kernel
theorem dX7_ping_29 : decode cX7_ping 29 = .ok (.iload_n 1, 1) := by decide +kernel
theorem dX7_ping_30 : decode cX7_ping 30 = .ok (.imul, 1) := by decide +kernel
theorem dX7_ping_31 : decode cX7_ping 31 = .ok (.iaload, 1) := by decide +kernel
theorem dX7_ping_32 : decode cX7_ping 32 = .ok (.iload 4, 2) := by decide +kernel
theorem dX7_ping_34 : decode cX7_ping 34 = .ok (.invokestatic 119, 3) := by decide +kernel
theorem dX7_ping_37 : decode cX7_ping 37 = .ok (.ifCond .ne 26, 3) := by decide +kernel
theorem dX7_ping_40 : decode cX7_ping 40 = .ok (.aload_n 0, 1) := by decide +kernel
theorem dX7_ping_41 : decode cX7_ping 41 = .ok (.iload 4, 2) := by decide +kernel
theorem dX7_ping_43 : decode cX7_ping 43 = .ok (.invokevirtual 130, 3) := by decide +kernel
theorem dX7_ping_46 : decode cX7_ping 46 = .ok (.aload_n 0, 1) := by decide +kernel
theorem dX7_ping_47 : decode cX7_ping 47 = .ok (.iload_n 1, 1) := by decide +kernel
theorem dX7_ping_48 : decode cX7_ping 48 = .ok (.iload 4, 2) := by decide +kernel
theorem dX7_ping_50 : decode cX7_ping 50 = .ok (.invokevirtual 134, 3) := by decide +kernel
theorem dX7_ping_53 : decode cX7_ping 53 = .ok (.if_icmp .le 10, 3) := by decide +kernel
theorem dX7_ping_56 : decode cX7_ping 56 = .ok (.iconst 1, 1) := by decide +kernel
theorem dX7_ping_57 : decode cX7_ping 57 = .ok (.iload 4, 2) := by decide +kernel
theorem dX7_ping_59 : decode cX7_ping 59 = .ok (.ishl, 1) := by decide +kernel
theorem dX7_ping_60 : decode cX7_ping 60 = .ok (.goto 4, 3) := by decide +kernel
theorem dX7_ping_63 : decode cX7_ping 63 = .ok (.iconst 0, 1) := by decide +kernel
theorem dX7_ping_64 : decode cX7_ping 64 = .ok (.ior, 1) := by decide +kernel
theorem dX7_ping_65 : decode cX7_ping 65 = .ok (.istore_n 3, 1) := by decide +kernel
theorem dX7_ping_66 : decode cX7_ping 66 = .ok (.iinc 4 1, 3) := by decide +kernel
theorem dX7_ping_69 : decode cX7_ping 69 = .ok (.goto (-56), 3) := by decide +kernel
theorem dX7_ping_72 : decode cX7_ping 72 = .ok (.iconst 0, 1) := by decide +kernel
theorem dX7_ping_73 : decode cX7_ping 73 = .ok (.istore 4, 2) := by decide +kernel
theorem dX7_ping_75 : decode cX7_ping 75 = .ok (.iload 4, 2) := by decide +kernel
theorem dX7_ping_77 : decode cX7_ping 77 = .ok (.aload_n 0, 1) := by decide +kernel
theorem dX7_ping_78 : decode cX7_ping 78 = .ok (.getfield 105, 3) := by decide +kernel
theorem dX7_ping_81 : decode cX7_ping 81 = .ok (.if_icmp .ge 67, 3) := by decide +kernel
theorem dX7_ping_84 : decode cX7_ping 84 = .ok (.aload_n 0, 1) := by decide +kernel
theorem dX7_ping_85 : decode cX7_ping 85 = .ok (.getfield 49, 3) := by decide +kernel
theorem dX7_ping_88 : decode cX7_ping 88 = .ok (.aload_n 0, 1) := by decide +kernel
theorem dX7_ping_89 : decode cX7_ping 89 = .ok (.getfield 7, 3) := by decide +kernel
theorem dX7_ping_92 : decode cX7_ping 92 = .ok (.iload 4, 2) := by decide +kernel
theorem dX7_ping_94 : decode cX7_ping 94 = .ok (.iaload, 1) := by decide +kernel
theorem dX7_ping_95 : decode cX7_ping 95 = .ok (.dup2, 1) := by decide +kernel
theorem dX7_ping_96 : decode cX7_ping 96 = .ok (.iaload, 1) := by decide +kernel
theorem dX7_ping_97 : decode cX7_ping 97 = .ok (.iload_n 3, 1) := by decide +kernel
theorem dX7_ping_98 : decode cX7_ping 98 = .ok (.iload 4, 2) := by decide +kernel
theorem dX7_ping_100 : decode cX7_ping 100 = .ok (.invokestatic 119, 3) := by decide +kernel
theorem dX7_ping_103 : decode cX7_ping 103 = .ok (.ifCond .eq 7, 3) := by decide +kernel
theorem dX7_ping_106 : decode cX7_ping 106 = .ok (.iconst 1, 1) := by decide +kernel
theorem dX7_ping_107 : decode cX7_ping 107 = .ok (.goto 4, 3) := by decide +kernel
theorem dX7_ping_110 : decode cX7_ping 110 = .ok (.iconst 0, 1) := by decide +kernel
theorem dX7_ping_111 : decode cX7_ping 111 = .ok (.iadd, 1) := by decide +kernel
theorem dX7_ping_112 : decode cX7_ping 112 = .ok (.iastore, 1) := by decide +kernel
theorem dX7_ping_113 : decode cX7_ping 113 = .ok (.aload_n 0, 1) := by decide +kernel
theorem dX7_ping_114 : decode cX7_ping 114 = .ok (.getfield 49, 3) := by decide +kernel
theorem dX7_ping_117 : decode cX7_ping 117 = .ok (.aload_n 0, 1) := by decide +kernel
theorem dX7_ping_118 : decode cX7_ping 118 = .ok (.getfield 13, 3) := by decide +kernel
theorem dX7_ping_121 : decode cX7_ping 121 = .ok (.iload 4, 2) := by decide +kernel
theorem dX7_ping_123 : decode cX7_ping 123 = .ok (.iaload, 1) := by decide +kernel
theorem dX7_ping_124 : decode cX7_ping 124 = .ok (.dup2, 1) := by decide +kernel
theorem dX7_ping_125 : decode cX7_ping 125 = .ok (.iaload, 1) := by decide +kernel
theorem dX7_ping_126 : decode cX7_ping 126 = .ok (.iload_n 3, 1) := by decide +kernel
theorem dX7_ping_127 : decode cX7_ping 127 = .ok (.iload 4, 2) := by decide +kernel
theorem dX7_ping_129 : decode cX7_ping 129 = .ok (.invokestatic 119, 3) := by decide +kernel
theorem dX7_ping_132 : decode cX7_ping 132 = .ok (.ifCond .eq 7, 3) := by decide +kernel
theorem dX7_ping_135 : decode cX7_ping 135 = .ok (.iconst 1, 1) := by decide +kernel
theorem dX7_ping_136 : decode cX7_ping 136 = .ok (.goto 4, 3) := by decide +kernel
theorem dX7_ping_139 : decode cX7_ping 139 = .ok (.iconst 0, 1) := by decide +kernel
theorem dX7_ping_140 : decode cX7_ping 140 = .ok (.iadd, 1) := by decide +kernel
theorem dX7_ping_141 : decode cX7_ping 141 = .ok (.iastore, 1) := by decide +kernel
theorem dX7_ping_142 : decode cX7_ping 142 = .ok (.iinc 4 1, 3) := by decide +kernel
theorem dX7_ping_145 : decode cX7_ping 145 = .ok (.goto (-70), 3) := by decide +kernel
theorem dX7_ping_148 : decode cX7_ping 148 = .ok (.aload_n 0, 1) := by decide +kernel
theorem dX7_ping_149 : decode cX7_ping 149 = .ok (.getfield 34, 3) := by decide +kernel
theorem dX7_ping_152 : decode cX7_ping 152 = .ok (.bipush 9, 2) := by decide +kernel
theorem dX7_ping_154 : decode cX7_ping 154 = .ok (.iload_n 1, 1) := by decide +kernel
theorem dX7_ping_155 : decode cX7_ping 155 = .ok (.imul, 1) := by decide +kernel
theorem dX7_ping_156 : decode cX7_ping 156 = .ok (.dup2, 1) := by decide +kernel
theorem dX7_ping_157 : decode cX7_ping 157 = .ok (.iaload, 1) := by decide +kernel
theorem dX7_ping_158 : decode cX7_ping 158 = .ok (.iload_n 3, 1) := by decide +kernel
theorem dX7_ping_159 : decode cX7_ping 159 = .ok (.ior, 1) := by decide +kernel
theorem dX7_ping_160 : decode cX7_ping 160 = .ok (.iastore, 1) := by decide +kernel
theorem dX7_ping_161 : decode cX7_ping 161 = .ok (.iload_n 2, 1) := by decide +kernel
theorem dX7_ping_162 : decode cX7_ping 162 = .ok (.iload_n 3, 1) := by decide +kernel
theorem dX7_ping_163 : decode cX7_ping 163 = .ok (.invokestatic 137, 3) := by decide +kernel
theorem dX7_ping_166 : decode cX7_ping 166 = .ok (.iadd, 1) := by decide +kernel
theorem dX7_ping_167 : decode cX7_ping 167 = .ok (.istore_n 2, 1) := by decide +kernel
theorem dX7_ping_168 : decode cX7_ping 168 = .ok (.goto (-164), 3) := by decide +kernel
theorem dX7_ping_171 : decode cX7_ping 171 = .ok (.iload_n 2, 1) := by decide +kernel
theorem dX7_ping_172 : decode cX7_ping 172 = .ok (.ireturn, 1) := by decide +kernel
theorem dX7_tugOn_0 : decode cX7_tugOn 0 = .ok (.aload_n 0, 1) := by decide +kernel
theorem dX7_tugOn_1 : decode cX7_tugOn 1 = .ok (.invokevirtual 140, 3) := by decide +kernel
theorem dX7_tugOn_4 : decode cX7_tugOn 4 = .ok (.aload_n 0, 1) := by decide +kernel
theorem dX7_tugOn_5 : decode cX7_tugOn 5 = .ok (.getfield 49, 3) := by decide +kernel
theorem dX7_tugOn_8 : decode cX7_tugOn 8 = .ok (.iload_n 2, 1) := by decide +kernel
theorem dX7_tugOn_9 : decode cX7_tugOn 9 = .ok (.iload_n 3, 1) := by decide +kernel
theorem dX7_tugOn_10 : decode cX7_tugOn 10 = .ok (.iastore, 1) := by decide +kernel
theorem dX7_tugOn_11 : decode cX7_tugOn 11 = .ok (.aload_n 0, 1) := by decide +kernel
theorem dX7_tugOn_12 : decode cX7_tugOn 12 = .ok (.iload_n 1, 1) := by decide +kernel
theorem dX7_tugOn_13 : decode cX7_tugOn 13 = .ok (.invokevirtual 143, 3) := by decide +kernel
theorem dX7_tugOn_16 : decode cX7_tugOn 16 = .ok (.ireturn, 1) := by decide +kernel
theorem dX7_passOn_0 : decode cX7_passOn 0 = .ok (.bipush 9, 2) := by decide +kernel
theorem dX7_passOn_2 : decode cX7_passOn 2 = .ok (.iload_n 1, 1) := by decide +kernel
theorem dX7_passOn_3 : decode cX7_passOn 3 = .ok (.imul, 1) := by decide +kernel
theorem dX7_passOn_4 : decode cX7_passOn 4 = .ok (.istore_n 2, 1) := by decide +kernel
theorem dX7_passOn_5 : decode cX7_passOn 5 = .ok (.iconst 0, 1) := by decide +kernel
theorem dX7_passOn_6 : decode cX7_passOn 6 = .ok (.istore_n 3, 1) := by decide +kernel
theorem dX7_passOn_7 : decode cX7_passOn 7 = .ok (.iload_n 3, 1) := by decide +kernel
theorem dX7_passOn_8 : decode cX7_passOn 8 = .ok (.aload_n 0, 1) := by decide +kernel
theorem dX7_passOn_9 : decode cX7_passOn 9 = .ok (.getfield 105, 3) := by decide +kernel
theorem dX7_passOn_12 : decode cX7_passOn 12 = .ok (.if_icmp .ge 37, 3) := by decide +kernel
theorem dX7_passOn_15 : decode cX7_passOn 15 = .ok (.aload_n 0, 1) := by decide +kernel
theorem dX7_passOn_16 : decode cX7_passOn 16 = .ok (.getfield 34, 3) := by decide +kernel
theorem dX7_passOn_19 : decode cX7_passOn 19 = .ok (.iload_n 2, 1) := by decide +kernel
theorem dX7_passOn_20 : decode cX7_passOn 20 = .ok (.dup2, 1) := by decide +kernel
theorem dX7_passOn_21 : decode cX7_passOn 21 = .ok (.iaload, 1) := by decide +kernel
theorem dX7_passOn_22 : decode cX7_passOn 22 = .ok (.aload_n 0, 1) := by decide +kernel
theorem dX7_passOn_23 : decode cX7_passOn 23 = .ok (.getfield 19, 3) := by decide +kernel
theorem dX7_passOn_26 : decode cX7_passOn 26 = .ok (.iload_n 3, 1) := by decide +kernel
theorem dX7_passOn_27 : decode cX7_passOn 27 = .ok (.iaload, 1) := by decide +kernel
theorem dX7_passOn_28 : decode cX7_passOn 28 = .ok (.iconst 3, 1) := by decide +kernel
theorem dX7_passOn_29 : decode cX7_passOn 29 = .ok (.if_icmp .ne 11, 3) := by decide +kernel
theorem dX7_passOn_32 : decode cX7_passOn 32 = .ok (.iconst 1, 1) := by decide +kernel
theorem dX7_passOn_33 : decode cX7_passOn 33 = .ok (.iload_n 3, 1) := by decide +kernel
theorem dX7_passOn_34 : decode cX7_passOn 34 = .ok (.ishl, 1) := by decide +kernel
theorem dX7_passOn_35 : decode cX7_passOn 35 = .ok (.iconst (-1), 1) := by decide +kernel
theorem dX7_passOn_36 : decode cX7_passOn 36 = .ok (.ixor, 1) := by decide +kernel
theorem dX7_passOn_37 : decode cX7_passOn 37 = .ok (.goto 4, 3) := by decide +kernel
theorem dX7_passOn_40 : decode cX7_passOn 40 = .ok (.iconst (-1), 1) := by decide +kernel
theorem dX7_passOn_41 : decode cX7_passOn 41 = .ok (.iand, 1) := by decide +kernel
theorem dX7_passOn_42 : decode cX7_passOn 42 = .ok (.iastore, 1) := by decide +kernel
theorem dX7_passOn_43 : decode cX7_passOn 43 = .ok (.iinc 3 1, 3) := by decide +kernel
theorem dX7_passOn_46 : decode cX7_passOn 46 = .ok (.goto (-39), 3) := by decide +kernel
theorem dX7_passOn_49 : decode cX7_passOn 49 = .ok (.aload_n 0, 1) := by decide +kernel
theorem dX7_passOn_50 : decode cX7_passOn 50 = .ok (.invokevirtual 140, 3) := by decide +kernel
theorem dX7_passOn_53 : decode cX7_passOn 53 = .ok (.aload_n 0, 1) := by decide +kernel
theorem dX7_passOn_54 : decode cX7_passOn 54 = .ok (.getfield 108, 3) := by decide +kernel
theorem dX7_passOn_57 : decode cX7_passOn 57 = .ok (.ifCond .le 46, 3) := by decide +kernel
theorem dX7_passOn_60 : decode cX7_passOn 60 = .ok (.aload_n 0, 1) := by decide +kernel
theorem dX7_passOn_61 : decode cX7_passOn 61 = .ok (.getfield 49, 3) := by decide +kernel
theorem dX7_passOn_64 : decode cX7_passOn 64 = .ok (.aload_n 0, 1) := by decide +kernel
theorem dX7_passOn_65 : decode cX7_passOn 65 = .ok (.getfield 22, 3) := by decide +kernel
theorem dX7_passOn_68 : decode cX7_passOn 68 = .ok (.aload_n 0, 1) := by decide +kernel
theorem dX7_passOn_69 : decode cX7_passOn 69 = .ok (.getfield 34, 3) := by decide +kernel
theorem dX7_passOn_72 : decode cX7_passOn 72 = .ok (.iload_n 2, 1) := by decide +kernel
theorem dX7_passOn_73 : decode cX7_passOn 73 = .ok (.bipush 8, 2) := by decide +kernel
theorem dX7_passOn_75 : decode cX7_passOn 75 = .ok (.iadd, 1) := by decide +kernel
theorem dX7_passOn_76 : decode cX7_passOn 76 = .ok (.iaload, 1) := by decide +kernel
theorem dX7_passOn_77 : decode cX7_passOn 77 = .ok (.aload_n 0, 1) := by decide +kernel
theorem dX7_passOn_78 : decode cX7_passOn 78 = .ok (.getfield 108, 3) := by decide +kernel
theorem dX7_passOn_81 : decode cX7_passOn 81 = .ok (.irem, 1) := by decide +kernel
theorem dX7_passOn_82 : decode cX7_passOn 82 = .ok (.iaload, 1) := by decide +kernel
theorem dX7_passOn_83 : decode cX7_passOn 83 = .ok (.aload_n 0, 1) := by decide +kernel
theorem dX7_passOn_84 : decode cX7_passOn 84 = .ok (.getfield 25, 3) := by decide +kernel
theorem dX7_passOn_87 : decode cX7_passOn 87 = .ok (.aload_n 0, 1) := by decide +kernel
theorem dX7_passOn_88 : decode cX7_passOn 88 = .ok (.getfield 34, 3) := by decide +kernel
theorem dX7_passOn_91 : decode cX7_passOn 91 = .ok (.iload_n 2, 1) := by decide +kernel
theorem dX7_passOn_92 : decode cX7_passOn 92 = .ok (.bipush 8, 2) := by decide +kernel
theorem dX7_passOn_94 : decode cX7_passOn 94 = .ok (.iadd, 1) := by decide +kernel
theorem dX7_passOn_95 : decode cX7_passOn 95 = .ok (.iaload, 1) := by decide +kernel
theorem dX7_passOn_96 : decode cX7_passOn 96 = .ok (.aload_n 0, 1) := by decide +kernel
theorem dX7_passOn_97 : decode cX7_passOn 97 = .ok (.getfield 108, 3) := by decide +kernel
theorem dX7_passOn_100 : decode cX7_passOn 100 = .ok (.irem, 1) := by decide +kernel
theorem dX7_passOn_101 : decode cX7_passOn 101 = .ok (.iaload, 1) := by decide +kernel
theorem dX7_passOn_102 : decode cX7_passOn 102 = .ok (.iastore, 1) := by decide +kernel
theorem dX7_passOn_103 : decode cX7_passOn 103 = .ok (.aload_n 0, 1) := by decide +kernel
theorem dX7_passOn_104 : decode cX7_passOn 104 = .ok (.iload_n 1, 1) := by decide +kernel
theorem dX7_passOn_105 : decode cX7_passOn 105 = .ok (.invokevirtual 143, 3) := by decide +kernel
theorem dX7_passOn_108 : decode cX7_passOn 108 = .ok (.istore_n 3, 1) := by decide +kernel
theorem dX7_passOn_109 : decode cX7_passOn 109 = .ok (.iconst 0, 1) := by decide +kernel
theorem dX7_passOn_110 : decode cX7_passOn 110 = .ok (.istore 4, 2) := by decide +kernel
theorem dX7_passOn_112 : decode cX7_passOn 112 = .ok (.iload 4, 2) := by decide +kernel
theorem dX7_passOn_114 : decode cX7_passOn 114 = .ok (.aload_n 0, 1) := by decide +kernel
theorem dX7_passOn_115 : decode cX7_passOn 115 = .ok (.getfield 105, 3) := by decide +kernel
theorem dX7_passOn_118 : decode cX7_passOn 118 = .ok (.if_icmp .ge 62, 3) := by decide +kernel
theorem dX7_passOn_121 : decode cX7_passOn 121 = .ok (.aload_n 0, 1) := by decide +kernel
theorem dX7_passOn_122 : decode cX7_passOn 122 = .ok (.getfield 34, 3) := by decide +kernel
theorem dX7_passOn_125 : decode cX7_passOn 125 = .ok (.iload_n 2, 1) := by decide +kernel
theorem dX7_passOn_126 : decode cX7_passOn 126 = .ok (.iconst 1, 1) := by decide +kernel
theorem dX7_passOn_127 : decode cX7_passOn 127 = .ok (.iadd, 1) := by decide +kernel
theorem dX7_passOn_128 : decode cX7_passOn 128 = .ok (.iload 4, 2) := by decide +kernel
theorem dX7_passOn_130 : decode cX7_passOn 130 = .ok (.iadd, 1) := by decide +kernel
theorem dX7_passOn_131 : decode cX7_passOn 131 = .ok (.dup2, 1) := by decide +kernel
theorem dX7_passOn_132 : decode cX7_passOn 132 = .ok (.iaload, 1) := by decide +kernel
theorem dX7_passOn_133 : decode cX7_passOn 133 = .ok (.aload_n 0, 1) := by decide +kernel
theorem dX7_passOn_134 : decode cX7_passOn 134 = .ok (.getfield 19, 3) := by decide +kernel
theorem dX7_passOn_137 : decode cX7_passOn 137 = .ok (.iload 4, 2) := by decide +kernel
theorem dX7_passOn_139 : decode cX7_passOn 139 = .ok (.iaload, 1) := by decide +kernel
theorem dX7_passOn_140 : decode cX7_passOn 140 = .ok (.iconst 2, 1) := by decide +kernel
theorem dX7_passOn_141 : decode cX7_passOn 141 = .ok (.if_icmp .ne 30, 3) := by decide +kernel
theorem dX7_passOn_144 : decode cX7_passOn 144 = .ok (.aload_n 0, 1) := by decide +kernel
theorem dX7_passOn_145 : decode cX7_passOn 145 = .ok (.getfield 34, 3) := by decide +kernel
theorem dX7_passOn_148 : decode cX7_passOn 148 = .ok (.iload_n 2, 1) := by decide +kernel
theorem dX7_passOn_149 : decode cX7_passOn 149 = .ok (.iaload, 1) := by decide +kernel
theorem dX7_passOn_150 : decode cX7_passOn 150 = .ok (.iload 4, 2) := by decide +kernel
theorem dX7_passOn_152 : decode cX7_passOn 152 = .ok (.invokestatic 119, 3) := by decide +kernel
theorem dX7_passOn_155 : decode cX7_passOn 155 = .ok (.ifCond .ne 16, 3) := by decide +kernel
theorem dX7_passOn_158 : decode cX7_passOn 158 = .ok (.aload_n 0, 1) := by decide +kernel
theorem dX7_passOn_159 : decode cX7_passOn 159 = .ok (.iload 4, 2) := by decide +kernel
theorem dX7_passOn_161 : decode cX7_passOn 161 = .ok (.invokevirtual 130, 3) := by decide +kernel
theorem dX7_passOn_164 : decode cX7_passOn 164 = .ok (.ifCond .le 7, 3) := by decide +kernel
theorem dX7_passOn_167 : decode cX7_passOn 167 = .ok (.iconst 1, 1) := by decide +kernel
theorem dX7_passOn_168 : decode cX7_passOn 168 = .ok (.goto 4, 3) := by decide +kernel
theorem dX7_passOn_171 : decode cX7_passOn 171 = .ok (.iconst 0, 1) := by decide +kernel
theorem dX7_passOn_172 : decode cX7_passOn 172 = .ok (.iadd, 1) := by decide +kernel
theorem dX7_passOn_173 : decode cX7_passOn 173 = .ok (.iastore, 1) := by decide +kernel
theorem dX7_passOn_174 : decode cX7_passOn 174 = .ok (.iinc 4 1, 3) := by decide +kernel
theorem dX7_passOn_177 : decode cX7_passOn 177 = .ok (.goto (-65), 3) := by decide +kernel
theorem dX7_passOn_180 : decode cX7_passOn 180 = .ok (.aload_n 0, 1) := by decide +kernel
theorem dX7_passOn_181 : decode cX7_passOn 181 = .ok (.getfield 34, 3) := by decide +kernel
theorem dX7_passOn_184 : decode cX7_passOn 184 = .ok (.iload_n 2, 1) := by decide +kernel
theorem dX7_passOn_185 : decode cX7_passOn 185 = .ok (.bipush 8, 2) := by decide +kernel
theorem dX7_passOn_187 : decode cX7_passOn 187 = .ok (.iadd, 1) := by decide +kernel
theorem dX7_passOn_188 : decode cX7_passOn 188 = .ok (.dup2, 1) := by decide +kernel
theorem dX7_passOn_189 : decode cX7_passOn 189 = .ok (.iaload, 1) := by decide +kernel
theorem dX7_passOn_190 : decode cX7_passOn 190 = .ok (.iconst 1, 1) := by decide +kernel
theorem dX7_passOn_191 : decode cX7_passOn 191 = .ok (.iadd, 1) := by decide +kernel
theorem dX7_passOn_192 : decode cX7_passOn 192 = .ok (.iastore, 1) := by decide +kernel
theorem dX7_passOn_193 : decode cX7_passOn 193 = .ok (.iload_n 3, 1) := by decide +kernel
theorem dX7_passOn_194 : decode cX7_passOn 194 = .ok (.ireturn, 1) := by decide +kernel
theorem dX7_shutOn_0 : decode cX7_shutOn 0 = .ok (.aload_n 0, 1) := by decide +kernel
theorem dX7_shutOn_1 : decode cX7_shutOn 1 = .ok (.getfield 34, 3) := by decide +kernel
theorem dX7_shutOn_4 : decode cX7_shutOn 4 = .ok (.bipush 9, 2) := by decide +kernel
theorem dX7_shutOn_6 : decode cX7_shutOn 6 = .ok (.iload_n 1, 1) := by decide +kernel
theorem dX7_shutOn_7 : decode cX7_shutOn 7 = .ok (.imul, 1) := by decide +kernel
theorem dX7_shutOn_8 : decode cX7_shutOn 8 = .ok (.dup2, 1) := by decide +kernel
theorem dX7_shutOn_9 : decode cX7_shutOn 9 = .ok (.iaload, 1) := by decide +kernel
theorem dX7_shutOn_10 : decode cX7_shutOn 10 = .ok (.iconst 1, 1) := by decide +kernel
theorem dX7_shutOn_11 : decode cX7_shutOn 11 = .ok (.iload_n 2, 1) := by decide +kernel
theorem dX7_shutOn_12 : decode cX7_shutOn 12 = .ok (.ishl, 1) := by decide +kernel
theorem dX7_shutOn_13 : decode cX7_shutOn 13 = .ok (.iconst (-1), 1) := by decide +kernel
theorem dX7_shutOn_14 : decode cX7_shutOn 14 = .ok (.ixor, 1) := by decide +kernel
theorem dX7_shutOn_15 : decode cX7_shutOn 15 = .ok (.iand, 1) := by decide +kernel
theorem dX7_shutOn_16 : decode cX7_shutOn 16 = .ok (.iastore, 1) := by decide +kernel
theorem dX7_shutOn_17 : decode cX7_shutOn 17 = .ok (.aload_n 0, 1) := by decide +kernel
theorem dX7_shutOn_18 : decode cX7_shutOn 18 = .ok (.getfield 34, 3) := by decide +kernel
theorem dX7_shutOn_21 : decode cX7_shutOn 21 = .ok (.bipush 9, 2) := by decide +kernel
theorem dX7_shutOn_23 : decode cX7_shutOn 23 = .ok (.iload_n 1, 1) := by decide +kernel
theorem dX7_shutOn_24 : decode cX7_shutOn 24 = .ok (.imul, 1) := by decide +kernel
theorem dX7_shutOn_25 : decode cX7_shutOn 25 = .ok (.iconst 1, 1) := by decide +kernel
theorem dX7_shutOn_26 : decode cX7_shutOn 26 = .ok (.iadd, 1) := by decide +kernel
theorem dX7_shutOn_27 : decode cX7_shutOn 27 = .ok (.iload_n 2, 1) := by decide +kernel
theorem dX7_shutOn_28 : decode cX7_shutOn 28 = .ok (.iadd, 1) := by decide +kernel
theorem dX7_shutOn_29 : decode cX7_shutOn 29 = .ok (.iconst 0, 1) := by decide +kernel
theorem dX7_shutOn_30 : decode cX7_shutOn 30 = .ok (.iastore, 1) := by decide +kernel
theorem dX7_shutOn_31 : decode cX7_shutOn 31 = .ok (.return_, 1) := by decide +kernel
theorem dX7_pin_0 : decode cX7_pin 0 = .ok (.aload_n 0, 1) := by decide +kernel
theorem dX7_pin_1 : decode cX7_pin 1 = .ok (.iload_n 1, 1) := by decide +kernel
theorem dX7_pin_2 : decode cX7_pin 2 = .ok (.invokevirtual 146, 3) := by decide +kernel
theorem dX7_pin_5 : decode cX7_pin 5 = .ok (.ifCond .ne 5, 3) := by decide +kernel
theorem dX7_pin_8 : decode cX7_pin 8 = .ok (.iconst (-1), 1) := by decide +kernel
theorem dX7_pin_9 : decode cX7_pin 9 = .ok (.ireturn, 1) := by decide +kernel
theorem dX7_pin_10 : decode cX7_pin 10 = .ok (.iload_n 2, 1) := by decide +kernel
theorem dX7_pin_11 : decode cX7_pin 11 = .ok (.tableswitch 96 0 6 #[41, 48, 55, 62, 69, 76, 85], 41) := by decide +kernel
theorem dX7_pin_52 : decode cX7_pin 52 = .ok (.aload_n 0, 1) := by decide +kernel
theorem dX7_pin_53 : decode cX7_pin 53 = .ok (.getfield 7, 3) := by decide +kernel
theorem dX7_pin_56 : decode cX7_pin 56 = .ok (.iload_n 1, 1) := by decide +kernel
theorem dX7_pin_57 : decode cX7_pin 57 = .ok (.iaload, 1) := by decide +kernel
theorem dX7_pin_58 : decode cX7_pin 58 = .ok (.ireturn, 1) := by decide +kernel
theorem dX7_pin_59 : decode cX7_pin 59 = .ok (.aload_n 0, 1) := by decide +kernel
theorem dX7_pin_60 : decode cX7_pin 60 = .ok (.getfield 13, 3) := by decide +kernel
theorem dX7_pin_63 : decode cX7_pin 63 = .ok (.iload_n 1, 1) := by decide +kernel
theorem dX7_pin_64 : decode cX7_pin 64 = .ok (.iaload, 1) := by decide +kernel
theorem dX7_pin_65 : decode cX7_pin 65 = .ok (.ireturn, 1) := by decide +kernel
theorem dX7_pin_66 : decode cX7_pin 66 = .ok (.aload_n 0, 1) := by decide +kernel
theorem dX7_pin_67 : decode cX7_pin 67 = .ok (.getfield 16, 3) := by decide +kernel
theorem dX7_pin_70 : decode cX7_pin 70 = .ok (.iload_n 1, 1) := by decide +kernel
theorem dX7_pin_71 : decode cX7_pin 71 = .ok (.iaload, 1) := by decide +kernel
theorem dX7_pin_72 : decode cX7_pin 72 = .ok (.ireturn, 1) := by decide +kernel
theorem dX7_pin_73 : decode cX7_pin 73 = .ok (.aload_n 0, 1) := by decide +kernel
theorem dX7_pin_74 : decode cX7_pin 74 = .ok (.getfield 19, 3) := by decide +kernel
theorem dX7_pin_77 : decode cX7_pin 77 = .ok (.iload_n 1, 1) := by decide +kernel
theorem dX7_pin_78 : decode cX7_pin 78 = .ok (.iaload, 1) := by decide +kernel
theorem dX7_pin_79 : decode cX7_pin 79 = .ok (.ireturn, 1) := by decide +kernel
theorem dX7_pin_80 : decode cX7_pin 80 = .ok (.aload_n 0, 1) := by decide +kernel
theorem dX7_pin_81 : decode cX7_pin 81 = .ok (.iconst 0, 1) := by decide +kernel
theorem dX7_pin_82 : decode cX7_pin 82 = .ok (.iload_n 1, 1) := by decide +kernel
theorem dX7_pin_83 : decode cX7_pin 83 = .ok (.invokevirtual 134, 3) := by decide +kernel
theorem dX7_pin_86 : decode cX7_pin 86 = .ok (.ireturn, 1) := by decide +kernel
theorem dX7_pin_87 : decode cX7_pin 87 = .ok (.aload_n 0, 1) := by decide +kernel
theorem dX7_pin_88 : decode cX7_pin 88 = .ok (.getfield 34, 3) := by decide +kernel
theorem dX7_pin_91 : decode cX7_pin 91 = .ok (.iconst 1, 1) := by decide +kernel
theorem dX7_pin_92 : decode cX7_pin 92 = .ok (.iload_n 1, 1) := by decide +kernel
theorem dX7_pin_93 : decode cX7_pin 93 = .ok (.iadd, 1) := by decide +kernel
theorem dX7_pin_94 : decode cX7_pin 94 = .ok (.iaload, 1) := by decide +kernel
theorem dX7_pin_95 : decode cX7_pin 95 = .ok (.ireturn, 1) := by decide +kernel
theorem dX7_pin_96 : decode cX7_pin 96 = .ok (.aload_n 0, 1) := by decide +kernel
theorem dX7_pin_97 : decode cX7_pin 97 = .ok (.getfield 34, 3) := by decide +kernel
theorem dX7_pin_100 : decode cX7_pin 100 = .ok (.iconst 0, 1) := by decide +kernel
theorem dX7_pin_101 : decode cX7_pin 101 = .ok (.iaload, 1) := by decide +kernel
theorem dX7_pin_102 : decode cX7_pin 102 = .ok (.iload_n 1, 1) := by decide +kernel
theorem dX7_pin_103 : decode cX7_pin 103 = .ok (.ishr, 1) := by decide +kernel
theorem dX7_pin_104 : decode cX7_pin 104 = .ok (.iconst 1, 1) := by decide +kernel
theorem dX7_pin_105 : decode cX7_pin 105 = .ok (.iand, 1) := by decide +kernel
theorem dX7_pin_106 : decode cX7_pin 106 = .ok (.ireturn, 1) := by decide +kernel
theorem dX7_pin_107 : decode cX7_pin 107 = .ok (.bipush (-2), 2) := by decide +kernel
theorem dX7_pin_109 : decode cX7_pin 109 = .ok (.ireturn, 1) := by decide +kernel
theorem dX7_with_0 : decode cX7_with 0 = .ok (.iload_n 1, 1) := by decide +kernel
theorem dX7_with_1 : decode cX7_with 1 = .ok (.invokestatic 150, 3) := by decide +kernel
theorem dX7_with_4 : decode cX7_with 4 = .ok (.ifCond .eq 17, 3) := by decide +kernel
theorem dX7_with_7 : decode cX7_with 7 = .ok (.aload_n 0, 1) := by decide +kernel
theorem dX7_with_8 : decode cX7_with 8 = .ok (.iload_n 1, 1) := by decide +kernel
theorem dX7_with_9 : decode cX7_with 9 = .ok (.aload_n 0, 1) := by decide +kernel
theorem dX7_with_10 : decode cX7_with 10 = .ok (.getfield 34, 3) := by decide +kernel
theorem dX7_with_13 : decode cX7_with 13 = .ok (.iconst 0, 1) := by decide +kernel
theorem dX7_with_14 : decode cX7_with 14 = .ok (.iaload, 1) := by decide +kernel
theorem dX7_with_15 : decode cX7_with 15 = .ok (.invokevirtual 123, 3) := by decide +kernel
theorem dX7_with_18 : decode cX7_with 18 = .ok (.goto 4, 3) := by decide +kernel
theorem dX7_with_21 : decode cX7_with 21 = .ok (.iconst (-1), 1) := by decide +kernel
theorem dX7_with_22 : decode cX7_with 22 = .ok (.ireturn, 1) := by decide +kernel
theorem dX7_keepAct_0 : decode cX7_keepAct 0 = .ok (.iconst 0, 1) := by decide +kernel
theorem dX7_keepAct_1 : decode cX7_keepAct 1 = .ok (.istore_n 1, 1) := by decide +kernel
theorem dX7_keepAct_2 : decode cX7_keepAct 2 = .ok (.iload_n 1, 1) := by decide +kernel
theorem dX7_keepAct_3 : decode cX7_keepAct 3 = .ok (.bipush 9, 2) := by decide +kernel
theorem dX7_keepAct_5 : decode cX7_keepAct 5 = .ok (.if_icmp .ge 29, 3) := by decide +kernel
theorem dX7_keepAct_8 : decode cX7_keepAct 8 = .ok (.aload_n 0, 1) := by decide +kernel
theorem dX7_keepAct_9 : decode cX7_keepAct 9 = .ok (.getfield 52, 3) := by decide +kernel
theorem dX7_keepAct_12 : decode cX7_keepAct 12 = .ok (.bipush 9, 2) := by decide +kernel
theorem dX7_keepAct_14 : decode cX7_keepAct 14 = .ok (.aload_n 0, 1) := by decide +kernel
theorem dX7_keepAct_15 : decode cX7_keepAct 15 = .ok (.getfield 153, 3) := by decide +kernel
theorem dX7_keepAct_18 : decode cX7_keepAct 18 = .ok (.imul, 1) := by decide +kernel
theorem dX7_keepAct_19 : decode cX7_keepAct 19 = .ok (.iload_n 1, 1) := by decide +kernel
theorem dX7_keepAct_20 : decode cX7_keepAct 20 = .ok (.iadd, 1) := by decide +kernel
theorem dX7_keepAct_21 : decode cX7_keepAct 21 = .ok (.aload_n 0, 1) := by decide +kernel
theorem dX7_keepAct_22 : decode cX7_keepAct 22 = .ok (.getfield 34, 3) := by decide +kernel
theorem dX7_keepAct_25 : decode cX7_keepAct 25 = .ok (.iload_n 1, 1) := by decide +kernel
theorem dX7_keepAct_26 : decode cX7_keepAct 26 = .ok (.iaload, 1) := by decide +kernel
theorem dX7_keepAct_27 : decode cX7_keepAct 27 = .ok (.iastore, 1) := by decide +kernel
theorem dX7_keepAct_28 : decode cX7_keepAct 28 = .ok (.iinc 1 1, 3) := by decide +kernel
theorem dX7_keepAct_31 : decode cX7_keepAct 31 = .ok (.goto (-29), 3) := by decide +kernel
theorem dX7_keepAct_34 : decode cX7_keepAct 34 = .ok (.aload_n 0, 1) := by decide +kernel
theorem dX7_keepAct_35 : decode cX7_keepAct 35 = .ok (.aload_n 0, 1) := by decide +kernel
theorem dX7_keepAct_36 : decode cX7_keepAct 36 = .ok (.getfield 153, 3) := by decide +kernel
theorem dX7_keepAct_39 : decode cX7_keepAct 39 = .ok (.iconst 1, 1) := by decide +kernel
theorem dX7_keepAct_40 : decode cX7_keepAct 40 = .ok (.iadd, 1) := by decide +kernel
theorem dX7_keepAct_41 : decode cX7_keepAct 41 = .ok (.bipush 14, 2) := by decide +kernel
theorem dX7_keepAct_43 : decode cX7_keepAct 43 = .ok (.irem, 1) := by decide +kernel
theorem dX7_keepAct_44 : decode cX7_keepAct 44 = .ok (.putfield 153, 3) := by decide +kernel
theorem dX7_keepAct_47 : decode cX7_keepAct 47 = .ok (.aload_n 0, 1) := by decide +kernel
theorem dX7_keepAct_48 : decode cX7_keepAct 48 = .ok (.aload_n 0, 1) := by decide +kernel
theorem dX7_keepAct_49 : decode cX7_keepAct 49 = .ok (.getfield 114, 3) := by decide +kernel
theorem dX7_keepAct_52 : decode cX7_keepAct 52 = .ok (.bipush 14, 2) := by decide +kernel
theorem dX7_keepAct_54 : decode cX7_keepAct 54 = .ok (.if_icmp .ge 12, 3) := by decide +kernel
theorem dX7_keepAct_57 : decode cX7_keepAct 57 = .ok (.aload_n 0, 1) := by decide +kernel
theorem dX7_keepAct_58 : decode cX7_keepAct 58 = .ok (.getfield 114, 3) := by decide +kernel
theorem dX7_keepAct_61 : decode cX7_keepAct 61 = .ok (.iconst 1, 1) := by decide +kernel
theorem dX7_keepAct_62 : decode cX7_keepAct 62 = .ok (.iadd, 1) := by decide +kernel
theorem dX7_keepAct_63 : decode cX7_keepAct 63 = .ok (.goto 5, 3) := by decide +kernel
theorem dX7_keepAct_66 : decode cX7_keepAct 66 = .ok (.bipush 14, 2) := by decide +kernel
theorem dX7_keepAct_68 : decode cX7_keepAct 68 = .ok (.putfield 114, 3) := by decide +kernel
theorem dX7_keepAct_71 : decode cX7_keepAct 71 = .ok (.return_, 1) := by decide +kernel
theorem dX7_day_0 : decode cX7_day 0 = .ok (.aload_n 0, 1) := by decide +kernel
theorem dX7_day_1 : decode cX7_day 1 = .ok (.invokevirtual 156, 3) := by decide +kernel
theorem dX7_day_4 : decode cX7_day 4 = .ok (.aload_n 0, 1) := by decide +kernel
theorem dX7_day_5 : decode cX7_day 5 = .ok (.iconst 0, 1) := by decide +kernel
theorem dX7_day_6 : decode cX7_day 6 = .ok (.invokevirtual 159, 3) := by decide +kernel
theorem dX7_day_9 : decode cX7_day 9 = .ok (.ireturn, 1) := by decide +kernel
theorem dX7_tug_0 : decode cX7_tug 0 = .ok (.iload_n 1, 1) := by decide +kernel
theorem dX7_tug_1 : decode cX7_tug 1 = .ok (.invokestatic 150, 3) := by decide +kernel
theorem dX7_tug_4 : decode cX7_tug 4 = .ok (.ifCond .ne 5, 3) := by decide +kernel
theorem dX7_tug_7 : decode cX7_tug 7 = .ok (.iconst (-1), 1) := by decide +kernel
theorem dX7_tug_8 : decode cX7_tug 8 = .ok (.ireturn, 1) := by decide +kernel
theorem dX7_tug_9 : decode cX7_tug 9 = .ok (.iload_n 2, 1) := by decide +kernel
theorem dX7_tug_10 : decode cX7_tug 10 = .ok (.i2l, 1) := by decide +kernel
theorem dX7_tug_11 : decode cX7_tug 11 = .ok (.lconst 1, 1) := by decide +kernel
theorem dX7_tug_12 : decode cX7_tug 12 = .ok (.ldc2_w 162, 3) := by decide +kernel
theorem dX7_tug_15 : decode cX7_tug 15 = .ok (.invokestatic 70, 3) := by decide +kernel
theorem dX7_tug_18 : decode cX7_tug 18 = .ok (.ifCond .ne 6, 3) := by decide +kernel
theorem dX7_tug_21 : decode cX7_tug 21 = .ok (.bipush (-2), 2) := by decide +kernel
theorem dX7_tug_23 : decode cX7_tug 23 = .ok (.ireturn, 1) := by decide +kernel
theorem dX7_tug_24 : decode cX7_tug 24 = .ok (.aload_n 0, 1) := by decide +kernel
theorem dX7_tug_25 : decode cX7_tug 25 = .ok (.invokevirtual 156, 3) := by decide +kernel
theorem dX7_tug_28 : decode cX7_tug 28 = .ok (.aload_n 0, 1) := by decide +kernel
theorem dX7_tug_29 : decode cX7_tug 29 = .ok (.iconst 0, 1) := by decide +kernel
theorem dX7_tug_30 : decode cX7_tug 30 = .ok (.iload_n 1, 1) := by decide +kernel
theorem dX7_tug_31 : decode cX7_tug 31 = .ok (.iload_n 2, 1) := by decide +kernel
theorem dX7_tug_32 : decode cX7_tug 32 = .ok (.invokevirtual 164, 3) := by decide +kernel
theorem dX7_tug_35 : decode cX7_tug 35 = .ok (.ireturn, 1) := by decide +kernel
