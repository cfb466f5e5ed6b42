theorem dX7_shut_0 : decode cX7_shut 0 = .ok (.aload_n 0, 1) := by decide +kernel
theorem dX7_shut_1 : decode cX7_shut 1 = .ok (.iload_n 1, 1) := by decide +kernel
theorem dX7_shut_2 : decode cX7_shut 2 = .ok (.invokevirtual 146, 3) := by decide +kernel
theorem dX7_shut_5 : decode cX7_shut 5 = .ok (.ifCond .ne 5, 3) := by decide +kernel
theorem dX7_shut_8 : decode cX7_shut 8 = .ok (.iconst (-1), 1) := by decide +kernel
theorem dX7_shut_9 : decode cX7_shut 9 = .ok (.ireturn, 1) := by decide +kernel
theorem dX7_shut_10 : decode cX7_shut 10 = .ok (.aload_n 0, 1) := by decide +kernel
theorem dX7_shut_11 : decode cX7_shut 11 = .ok (.getfield 34, 3) := by decide +kernel
theorem dX7_shut_14 : decode cX7_shut 14 = .ok (.iconst 0, 1) := by decide +kernel
theorem dX7_shut_15 : decode cX7_shut 15 = .ok (.iaload, 1) := by decide +kernel
theorem dX7_shut_16 : decode cX7_shut 16 = .ok (.iload_n 1, 1) := by decide +kernel
theorem dX7_shut_17 : decode cX7_shut 17 = .ok (.invokestatic 119, 3) := by decide +kernel
theorem dX7_shut_20 : decode cX7_shut 20 = .ok (.ifCond .ne 6, 3) := by decide +kernel
theorem dX7_shut_23 : decode cX7_shut 23 = .ok (.bipush (-3), 2) := by decide +kernel
theorem dX7_shut_25 : decode cX7_shut 25 = .ok (.ireturn, 1) := by decide +kernel
theorem dX7_shut_26 : decode cX7_shut 26 = .ok (.aload_n 0, 1) := by decide +kernel
theorem dX7_shut_27 : decode cX7_shut 27 = .ok (.invokevirtual 156, 3) := by decide +kernel
theorem dX7_shut_30 : decode cX7_shut 30 = .ok (.aload_n 0, 1) := by decide +kernel
theorem dX7_shut_31 : decode cX7_shut 31 = .ok (.iconst 0, 1) := by decide +kernel
theorem dX7_shut_32 : decode cX7_shut 32 = .ok (.iload_n 1, 1) := by decide +kernel
theorem dX7_shut_33 : decode cX7_shut 33 = .ok (.invokevirtual 168, 3) := by decide +kernel
theorem dX7_shut_36 : decode cX7_shut 36 = .ok (.aload_n 0, 1) := by decide +kernel
theorem dX7_shut_37 : decode cX7_shut 37 = .ok (.getfield 34, 3) := by decide +kernel
theorem dX7_shut_40 : decode cX7_shut 40 = .ok (.iconst 0, 1) := by decide +kernel
theorem dX7_shut_41 : decode cX7_shut 41 = .ok (.iaload, 1) := by decide +kernel
theorem dX7_shut_42 : decode cX7_shut 42 = .ok (.invokestatic 137, 3) := by decide +kernel
theorem dX7_shut_45 : decode cX7_shut 45 = .ok (.ireturn, 1) := by decide +kernel
theorem dX7_open_0 : decode cX7_open 0 = .ok (.aload_n 0, 1) := by decide +kernel
theorem dX7_open_1 : decode cX7_open 1 = .ok (.iload_n 1, 1) := by decide +kernel
theorem dX7_open_2 : decode cX7_open 2 = .ok (.invokevirtual 146, 3) := by decide +kernel
theorem dX7_open_5 : decode cX7_open 5 = .ok (.ifCond .ne 5, 3) := by decide +kernel
theorem dX7_open_8 : decode cX7_open 8 = .ok (.iconst (-1), 1) := by decide +kernel
theorem dX7_open_9 : decode cX7_open 9 = .ok (.ireturn, 1) := by decide +kernel
theorem dX7_open_10 : decode cX7_open 10 = .ok (.aload_n 0, 1) := by decide +kernel
theorem dX7_open_11 : decode cX7_open 11 = .ok (.getfield 34, 3) := by decide +kernel
theorem dX7_open_14 : decode cX7_open 14 = .ok (.iconst 0, 1) := by decide +kernel
theorem dX7_open_15 : decode cX7_open 15 = .ok (.iaload, 1) := by decide +kernel
theorem dX7_open_16 : decode cX7_open 16 = .ok (.iload_n 1, 1) := by decide +kernel
theorem dX7_open_17 : decode cX7_open 17 = .ok (.invokestatic 119, 3) := by decide +kernel
theorem dX7_open_20 : decode cX7_open 20 = .ok (.ifCond .eq 6, 3) := by decide +kernel
theorem dX7_open_23 : decode cX7_open 23 = .ok (.bipush (-3), 2) := by decide +kernel
theorem dX7_open_25 : decode cX7_open 25 = .ok (.ireturn, 1) := by decide +kernel
theorem dX7_open_26 : decode cX7_open 26 = .ok (.aload_n 0, 1) := by decide +kernel
theorem dX7_open_27 : decode cX7_open 27 = .ok (.invokevirtual 156, 3) := by decide +kernel
theorem dX7_open_30 : decode cX7_open 30 = .ok (.aload_n 0, 1) := by decide +kernel
theorem dX7_open_31 : decode cX7_open 31 = .ok (.getfield 34, 3) := by decide +kernel
theorem dX7_open_34 : decode cX7_open 34 = .ok (.iconst 0, 1) := by decide +kernel
theorem dX7_open_35 : decode cX7_open 35 = .ok (.dup2, 1) := by decide +kernel
theorem dX7_open_36 : decode cX7_open 36 = .ok (.iaload, 1) := by decide +kernel
theorem dX7_open_37 : decode cX7_open 37 = .ok (.iconst 1, 1) := by decide +kernel
theorem dX7_open_38 : decode cX7_open 38 = .ok (.iload_n 1, 1) := by decide +kernel
theorem dX7_open_39 : decode cX7_open 39 = .ok (.ishl, 1) := by decide +kernel
theorem dX7_open_40 : decode cX7_open 40 = .ok (.ior, 1) := by decide +kernel
theorem dX7_open_41 : decode cX7_open 41 = .ok (.iastore, 1) := by decide +kernel
theorem dX7_open_42 : decode cX7_open 42 = .ok (.aload_n 0, 1) := by decide +kernel
theorem dX7_open_43 : decode cX7_open 43 = .ok (.getfield 34, 3) := by decide +kernel
theorem dX7_open_46 : decode cX7_open 46 = .ok (.iconst 0, 1) := by decide +kernel
theorem dX7_open_47 : decode cX7_open 47 = .ok (.iaload, 1) := by decide +kernel
theorem dX7_open_48 : decode cX7_open 48 = .ok (.invokestatic 137, 3) := by decide +kernel
theorem dX7_open_51 : decode cX7_open 51 = .ok (.ireturn, 1) := by decide +kernel
theorem dX7_undo_0 : decode cX7_undo 0 = .ok (.aload_n 0, 1) := by decide +kernel
theorem dX7_undo_1 : decode cX7_undo 1 = .ok (.getfield 114, 3) := by decide +kernel
theorem dX7_undo_4 : decode cX7_undo 4 = .ok (.ifCond .ne 6, 3) := by decide +kernel
theorem dX7_undo_7 : decode cX7_undo 7 = .ok (.bipush (-3), 2) := by decide +kernel
theorem dX7_undo_9 : decode cX7_undo 9 = .ok (.ireturn, 1) := by decide +kernel
theorem dX7_undo_10 : decode cX7_undo 10 = .ok (.aload_n 0, 1) := by decide +kernel
theorem dX7_undo_11 : decode cX7_undo 11 = .ok (.dup, 1) := by decide +kernel
theorem dX7_undo_12 : decode cX7_undo 12 = .ok (.getfield 114, 3) := by decide +kernel
theorem dX7_undo_15 : decode cX7_undo 15 = .ok (.iconst 1, 1) := by decide +kernel
theorem dX7_undo_16 : decode cX7_undo 16 = .ok (.isub, 1) := by decide +kernel
theorem dX7_undo_17 : decode cX7_undo 17 = .ok (.putfield 114, 3) := by decide +kernel
theorem dX7_undo_20 : decode cX7_undo 20 = .ok (.aload_n 0, 1) := by decide +kernel
theorem dX7_undo_21 : decode cX7_undo 21 = .ok (.aload_n 0, 1) := by decide +kernel
theorem dX7_undo_22 : decode cX7_undo 22 = .ok (.getfield 153, 3) := by decide +kernel
theorem dX7_undo_25 : decode cX7_undo 25 = .ok (.bipush 13, 2) := by decide +kernel
theorem dX7_undo_27 : decode cX7_undo 27 = .ok (.iadd, 1) := by decide +kernel
theorem dX7_undo_28 : decode cX7_undo 28 = .ok (.bipush 14, 2) := by decide +kernel
theorem dX7_undo_30 : decode cX7_undo 30 = .ok (.irem, 1) := by decide +kernel
theorem dX7_undo_31 : decode cX7_undo 31 = .ok (.putfield 153, 3) := by decide +kernel
theorem dX7_undo_34 : decode cX7_undo 34 = .ok (.iconst 0, 1) := by decide +kernel
theorem dX7_undo_35 : decode cX7_undo 35 = .ok (.istore_n 1, 1) := by decide +kernel
theorem dX7_undo_36 : decode cX7_undo 36 = .ok (.iload_n 1, 1) := by decide +kernel
theorem dX7_undo_37 : decode cX7_undo 37 = .ok (.bipush 9, 2) := by decide +kernel
theorem dX7_undo_39 : decode cX7_undo 39 = .ok (.if_icmp .ge 29, 3) := by decide +kernel
theorem dX7_undo_42 : decode cX7_undo 42 = .ok (.aload_n 0, 1) := by decide +kernel
theorem dX7_undo_43 : decode cX7_undo 43 = .ok (.getfield 34, 3) := by decide +kernel
theorem dX7_undo_46 : decode cX7_undo 46 = .ok (.iload_n 1, 1) := by decide +kernel
theorem dX7_undo_47 : decode cX7_undo 47 = .ok (.aload_n 0, 1) := by decide +kernel
theorem dX7_undo_48 : decode cX7_undo 48 = .ok (.getfield 52, 3) := by decide +kernel
theorem dX7_undo_51 : decode cX7_undo 51 = .ok (.bipush 9, 2) := by decide +kernel
theorem dX7_undo_53 : decode cX7_undo 53 = .ok (.aload_n 0, 1) := by decide +kernel
theorem dX7_undo_54 : decode cX7_undo 54 = .ok (.getfield 153, 3) := by decide +kernel
theorem dX7_undo_57 : decode cX7_undo 57 = .ok (.imul, 1) := by decide +kernel
theorem dX7_undo_58 : decode cX7_undo 58 = .ok (.iload_n 1, 1) := by decide +kernel
theorem dX7_undo_59 : decode cX7_undo 59 = .ok (.iadd, 1) := by decide +kernel
theorem dX7_undo_60 : decode cX7_undo 60 = .ok (.iaload, 1) := by decide +kernel
theorem dX7_undo_61 : decode cX7_undo 61 = .ok (.iastore, 1) := by decide +kernel
theorem dX7_undo_62 : decode cX7_undo 62 = .ok (.iinc 1 1, 3) := by decide +kernel
theorem dX7_undo_65 : decode cX7_undo 65 = .ok (.goto (-29), 3) := by decide +kernel
theorem dX7_undo_68 : decode cX7_undo 68 = .ok (.aload_n 0, 1) := by decide +kernel
theorem dX7_undo_69 : decode cX7_undo 69 = .ok (.getfield 114, 3) := by decide +kernel
theorem dX7_undo_72 : decode cX7_undo 72 = .ok (.ireturn, 1) := by decide +kernel
theorem dX7_layTrial_0 : decode cX7_layTrial 0 = .ok (.iconst 0, 1) := by decide +kernel
theorem dX7_layTrial_1 : decode cX7_layTrial 1 = .ok (.istore_n 1, 1) := by decide +kernel
theorem dX7_layTrial_2 : decode cX7_layTrial 2 = .ok (.iload_n 1, 1) := by decide +kernel
theorem dX7_layTrial_3 : decode cX7_layTrial 3 = .ok (.bipush 9, 2) := by decide +kernel
theorem dX7_layTrial_5 : decode cX7_layTrial 5 = .ok (.if_icmp .ge 24, 3) := by decide +kernel
theorem dX7_layTrial_8 : decode cX7_layTrial 8 = .ok (.aload_n 0, 1) := by decide +kernel
theorem dX7_layTrial_9 : decode cX7_layTrial 9 = .ok (.getfield 34, 3) := by decide +kernel
theorem dX7_layTrial_12 : decode cX7_layTrial 12 = .ok (.bipush 9, 2) := by decide +kernel
theorem dX7_layTrial_14 : decode cX7_layTrial 14 = .ok (.iload_n 1, 1) := by decide +kernel
theorem dX7_layTrial_15 : decode cX7_layTrial 15 = .ok (.iadd, 1) := by decide +kernel
theorem dX7_layTrial_16 : decode cX7_layTrial 16 = .ok (.aload_n 0, 1) := by decide +kernel
theorem dX7_layTrial_17 : decode cX7_layTrial 17 = .ok (.getfield 34, 3) := by decide +kernel
theorem dX7_layTrial_20 : decode cX7_layTrial 20 = .ok (.iload_n 1, 1) := by decide +kernel
theorem dX7_layTrial_21 : decode cX7_layTrial 21 = .ok (.iaload, 1) := by decide +kernel
theorem dX7_layTrial_22 : decode cX7_layTrial 22 = .ok (.iastore, 1) := by decide +kernel
theorem dX7_layTrial_23 : decode cX7_layTrial 23 = .ok (.iinc 1 1, 3) := by decide +kernel
theorem dX7_layTrial_26 : decode cX7_layTrial 26 = .ok (.goto (-24), 3) := by decide +kernel
theorem dX7_layTrial_29 : decode cX7_layTrial 29 = .ok (.return_, 1) := by decide +kernel
theorem dX7_later_0 : decode cX7_later 0 = .ok (.iload_n 1, 1) := by decide +kernel
theorem dX7_later_1 : decode cX7_later 1 = .ok (.i2l, 1) := by decide +kernel
theorem dX7_later_2 : decode cX7_later 2 = .ok (.lconst 0, 1) := by decide +kernel
theorem dX7_later_3 : decode cX7_later 3 = .ok (.ldc2_w 172, 3) := by decide +kernel
theorem dX7_later_6 : decode cX7_later 6 = .ok (.invokestatic 70, 3) := by decide +kernel
theorem dX7_later_9 : decode cX7_later 9 = .ok (.ifCond .ne 6, 3) := by decide +kernel
theorem dX7_later_12 : decode cX7_later 12 = .ok (.bipush (-2), 2) := by decide +kernel
theorem dX7_later_14 : decode cX7_later 14 = .ok (.ireturn, 1) := by decide +kernel
theorem dX7_later_15 : decode cX7_later 15 = .ok (.aload_n 0, 1) := by decide +kernel
theorem dX7_later_16 : decode cX7_later 16 = .ok (.invokevirtual 174, 3) := by decide +kernel
theorem dX7_later_19 : decode cX7_later 19 = .ok (.iconst 0, 1) := by decide +kernel
theorem dX7_later_20 : decode cX7_later 20 = .ok (.istore_n 2, 1) := by decide +kernel
theorem dX7_later_21 : decode cX7_later 21 = .ok (.iload_n 2, 1) := by decide +kernel
theorem dX7_later_22 : decode cX7_later 22 = .ok (.iload_n 1, 1) := by decide +kernel
theorem dX7_later_23 : decode cX7_later 23 = .ok (.if_icmp .ge 15, 3) := by decide +kernel
theorem dX7_later_26 : decode cX7_later 26 = .ok (.aload_n 0, 1) := by decide +kernel
theorem dX7_later_27 : decode cX7_later 27 = .ok (.iconst 1, 1) := by decide +kernel
theorem dX7_later_28 : decode cX7_later 28 = .ok (.invokevirtual 159, 3) := by decide +kernel
theorem dX7_later_31 : decode cX7_later 31 = .ok (.pop, 1) := by decide +kernel
theorem dX7_later_32 : decode cX7_later 32 = .ok (.iinc 2 1, 3) := by decide +kernel
theorem dX7_later_35 : decode cX7_later 35 = .ok (.goto (-14), 3) := by decide +kernel
theorem dX7_later_38 : decode cX7_later 38 = .ok (.aload_n 0, 1) := by decide +kernel
theorem dX7_later_39 : decode cX7_later 39 = .ok (.getfield 34, 3) := by decide +kernel
theorem dX7_later_42 : decode cX7_later 42 = .ok (.bipush 9, 2) := by decide +kernel
theorem dX7_later_44 : decode cX7_later 44 = .ok (.iaload, 1) := by decide +kernel
theorem dX7_later_45 : decode cX7_later 45 = .ok (.ireturn, 1) := by decide +kernel
theorem dX7_lasts_0 : decode cX7_lasts 0 = .ok (.aload_n 0, 1) := by decide +kernel
theorem dX7_lasts_1 : decode cX7_lasts 1 = .ok (.iload_n 1, 1) := by decide +kernel
theorem dX7_lasts_2 : decode cX7_lasts 2 = .ok (.invokevirtual 146, 3) := by decide +kernel
theorem dX7_lasts_5 : decode cX7_lasts 5 = .ok (.ifCond .ne 5, 3) := by decide +kernel
theorem dX7_lasts_8 : decode cX7_lasts 8 = .ok (.iconst (-1), 1) := by decide +kernel
theorem dX7_lasts_9 : decode cX7_lasts 9 = .ok (.ireturn, 1) := by decide +kernel
theorem dX7_lasts_10 : decode cX7_lasts 10 = .ok (.aload_n 0, 1) := by decide +kernel
theorem dX7_lasts_11 : decode cX7_lasts 11 = .ok (.getfield 34, 3) := by decide +kernel
theorem dX7_lasts_14 : decode cX7_lasts 14 = .ok (.iconst 0, 1) := by decide +kernel
theorem dX7_lasts_15 : decode cX7_lasts 15 = .ok (.iaload, 1) := by decide +kernel
theorem dX7_lasts_16 : decode cX7_lasts 16 = .ok (.iload_n 1, 1) := by decide +kernel
theorem dX7_lasts_17 : decode cX7_lasts 17 = .ok (.invokestatic 119, 3) := by decide +kernel
theorem dX7_lasts_20 : decode cX7_lasts 20 = .ok (.ifCond .eq 6, 3) := by decide +kernel
theorem dX7_lasts_23 : decode cX7_lasts 23 = .ok (.bipush (-3), 2) := by decide +kernel
theorem dX7_lasts_25 : decode cX7_lasts 25 = .ok (.ireturn, 1) := by decide +kernel
theorem dX7_lasts_26 : decode cX7_lasts 26 = .ok (.aload_n 0, 1) := by decide +kernel
theorem dX7_lasts_27 : decode cX7_lasts 27 = .ok (.invokevirtual 174, 3) := by decide +kernel
theorem dX7_lasts_30 : decode cX7_lasts 30 = .ok (.iconst 1, 1) := by decide +kernel
theorem dX7_lasts_31 : decode cX7_lasts 31 = .ok (.istore_n 2, 1) := by decide +kernel
theorem dX7_lasts_32 : decode cX7_lasts 32 = .ok (.iload_n 2, 1) := by decide +kernel
theorem dX7_lasts_33 : decode cX7_lasts 33 = .ok (.bipush 21, 2) := by decide +kernel
theorem dX7_lasts_35 : decode cX7_lasts 35 = .ok (.if_icmp .ge 31, 3) := by decide +kernel
theorem dX7_lasts_38 : decode cX7_lasts 38 = .ok (.aload_n 0, 1) := by decide +kernel
theorem dX7_lasts_39 : decode cX7_lasts 39 = .ok (.iconst 1, 1) := by decide +kernel
theorem dX7_lasts_40 : decode cX7_lasts 40 = .ok (.invokevirtual 159, 3) := by decide +kernel
theorem dX7_lasts_43 : decode cX7_lasts 43 = .ok (.pop, 1) := by decide +kernel
theorem dX7_lasts_44 : decode cX7_lasts 44 = .ok (.aload_n 0, 1) := by decide +kernel
theorem dX7_lasts_45 : decode cX7_lasts 45 = .ok (.getfield 34, 3) := by decide +kernel
theorem dX7_lasts_48 : decode cX7_lasts 48 = .ok (.bipush 9, 2) := by decide +kernel
theorem dX7_lasts_50 : decode cX7_lasts 50 = .ok (.iaload, 1) := by decide +kernel
theorem dX7_lasts_51 : decode cX7_lasts 51 = .ok (.iload_n 1, 1) := by decide +kernel
theorem dX7_lasts_52 : decode cX7_lasts 52 = .ok (.invokestatic 119, 3) := by decide +kernel
theorem dX7_lasts_55 : decode cX7_lasts 55 = .ok (.ifCond .eq 5, 3) := by decide +kernel
theorem dX7_lasts_58 : decode cX7_lasts 58 = .ok (.iload_n 2, 1) := by decide +kernel
theorem dX7_lasts_59 : decode cX7_lasts 59 = .ok (.ireturn, 1) := by decide +kernel
theorem dX7_lasts_60 : decode cX7_lasts 60 = .ok (.iinc 2 1, 3) := by decide +kernel
theorem dX7_lasts_63 : decode cX7_lasts 63 = .ok (.goto (-31), 3) := by decide +kernel
theorem dX7_lasts_66 : decode cX7_lasts 66 = .ok (.bipush (-9), 2) := by decide +kernel
theorem dX7_lasts_68 : decode cX7_lasts 68 = .ok (.ireturn, 1) := by decide +kernel
theorem dX7_chain_0 : decode cX7_chain 0 = .ok (.aload_n 0, 1) := by decide +kernel
theorem dX7_chain_1 : decode cX7_chain 1 = .ok (.iload_n 1, 1) := by decide +kernel
theorem dX7_chain_2 : decode cX7_chain 2 = .ok (.invokevirtual 146, 3) := by decide +kernel
theorem dX7_chain_5 : decode cX7_chain 5 = .ok (.ifCond .ne 5, 3) := by decide +kernel
theorem dX7_chain_8 : decode cX7_chain 8 = .ok (.iconst (-1), 1) := by decide +kernel
theorem dX7_chain_9 : decode cX7_chain 9 = .ok (.ireturn, 1) := by decide +kernel
theorem dX7_chain_10 : decode cX7_chain 10 = .ok (.aload_n 0, 1) := by decide +kernel
theorem dX7_chain_11 : decode cX7_chain 11 = .ok (.getfield 34, 3) := by decide +kernel
theorem dX7_chain_14 : decode cX7_chain 14 = .ok (.iconst 0, 1) := by decide +kernel
theorem dX7_chain_15 : decode cX7_chain 15 = .ok (.iaload, 1) := by decide +kernel
theorem dX7_chain_16 : decode cX7_chain 16 = .ok (.iload_n 1, 1) := by decide +kernel
theorem dX7_chain_17 : decode cX7_chain 17 = .ok (.invokestatic 119, 3) := by decide +kernel
theorem dX7_chain_20 : decode cX7_chain 20 = .ok (.ifCond .eq 6, 3) := by decide +kernel
theorem dX7_chain_23 : decode cX7_chain 23 = .ok (.bipush (-3), 2) := by decide +kernel
theorem dX7_chain_25 : decode cX7_chain 25 = .ok (.ireturn, 1) := by decide +kernel
theorem dX7_chain_26 : decode cX7_chain 26 = .ok (.aload_n 0, 1) := by decide +kernel
theorem dX7_chain_27 : decode cX7_chain 27 = .ok (.invokevirtual 174, 3) := by decide +kernel
theorem dX7_chain_30 : decode cX7_chain 30 = .ok (.aload_n 0, 1) := by decide +kernel
theorem dX7_chain_31 : decode cX7_chain 31 = .ok (.getfield 34, 3) := by decide +kernel
theorem dX7_chain_34 : decode cX7_chain 34 = .ok (.bipush 9, 2) := by decide +kernel
theorem dX7_chain_36 : decode cX7_chain 36 = .ok (.dup2, 1) := by decide +kernel
theorem dX7_chain_37 : decode cX7_chain 37 = .ok (.iaload, 1) := by decide +kernel
theorem dX7_chain_38 : decode cX7_chain 38 = .ok (.iconst 1, 1) := by decide +kernel
theorem dX7_chain_39 : decode cX7_chain 39 = .ok (.iload_n 1, 1) := by decide +kernel
theorem dX7_chain_40 : decode cX7_chain 40 = .ok (.ishl, 1) := by decide +kernel
theorem dX7_chain_41 : decode cX7_chain 41 = .ok (.ior, 1) := by decide +kernel
theorem dX7_chain_42 : decode cX7_chain 42 = .ok (.iastore, 1) := by decide +kernel
theorem dX7_chain_43 : decode cX7_chain 43 = .ok (.aload_n 0, 1) := by decide +kernel
theorem dX7_chain_44 : decode cX7_chain 44 = .ok (.invokevirtual 140, 3) := by decide +kernel
theorem dX7_chain_47 : decode cX7_chain 47 = .ok (.aload_n 0, 1) := by decide +kernel
theorem dX7_chain_48 : decode cX7_chain 48 = .ok (.getfield 49, 3) := by decide +kernel
theorem dX7_chain_51 : decode cX7_chain 51 = .ok (.aload_n 0, 1) := by decide +kernel
theorem dX7_chain_52 : decode cX7_chain 52 = .ok (.getfield 7, 3) := by decide +kernel
theorem dX7_chain_55 : decode cX7_chain 55 = .ok (.iload_n 1, 1) := by decide +kernel
theorem dX7_chain_56 : decode cX7_chain 56 = .ok (.iaload, 1) := by decide +kernel
theorem dX7_chain_57 : decode cX7_chain 57 = .ok (.iconst 1, 1) := by decide +kernel
theorem dX7_chain_58 : decode cX7_chain 58 = .ok (.iastore, 1) := by decide +kernel
theorem dX7_chain_59 : decode cX7_chain 59 = .ok (.aload_n 0, 1) := by decide +kernel
theorem dX7_chain_60 : decode cX7_chain 60 = .ok (.getfield 49, 3) := by decide +kernel
theorem dX7_chain_63 : decode cX7_chain 63 = .ok (.aload_n 0, 1) := by decide +kernel
theorem dX7_chain_64 : decode cX7_chain 64 = .ok (.getfield 13, 3) := by decide +kernel
theorem dX7_chain_67 : decode cX7_chain 67 = .ok (.iload_n 1, 1) := by decide +kernel
theorem dX7_chain_68 : decode cX7_chain 68 = .ok (.iaload, 1) := by decide +kernel
theorem dX7_chain_69 : decode cX7_chain 69 = .ok (.iconst 1, 1) := by decide +kernel
theorem dX7_chain_70 : decode cX7_chain 70 = .ok (.iastore, 1) := by decide +kernel
theorem dX7_chain_71 : decode cX7_chain 71 = .ok (.aload_n 0, 1) := by decide +kernel
theorem dX7_chain_72 : decode cX7_chain 72 = .ok (.iconst 1, 1) := by decide +kernel
theorem dX7_chain_73 : decode cX7_chain 73 = .ok (.invokevirtual 143, 3) := by decide +kernel
theorem dX7_chain_76 : decode cX7_chain 76 = .ok (.pop, 1) := by decide +kernel
theorem dX7_chain_77 : decode cX7_chain 77 = .ok (.aload_n 0, 1) := by decide +kernel
theorem dX7_chain_78 : decode cX7_chain 78 = .ok (.getfield 34, 3) := by decide +kernel
theorem dX7_chain_81 : decode cX7_chain 81 = .ok (.bipush 9, 2) := by decide +kernel
theorem dX7_chain_83 : decode cX7_chain 83 = .ok (.iaload, 1) := by decide +kernel
theorem dX7_chain_84 : decode cX7_chain 84 = .ok (.aload_n 0, 1) := by decide +kernel
theorem dX7_chain_85 : decode cX7_chain 85 = .ok (.getfield 34, 3) := by decide +kernel
theorem dX7_chain_88 : decode cX7_chain 88 = .ok (.iconst 0, 1) := by decide +kernel
theorem dX7_chain_89 : decode cX7_chain 89 = .ok (.iaload, 1) := by decide +kernel
theorem dX7_chain_90 : decode cX7_chain 90 = .ok (.iconst (-1), 1) := by decide +kernel
theorem dX7_chain_91 : decode cX7_chain 91 = .ok (.ixor, 1) := by decide +kernel
theorem dX7_chain_92 : decode cX7_chain 92 = .ok (.iand, 1) := by decide +kernel
theorem dX7_chain_93 : decode cX7_chain 93 = .ok (.ireturn, 1) := by decide +kernel
theorem dX7_cuts_0 : decode cX7_cuts 0 = .ok (.iload_n 1, 1) := by decide +kernel
theorem dX7_cuts_1 : decode cX7_cuts 1 = .ok (.invokestatic 150, 3) := by decide +kernel
theorem dX7_cuts_4 : decode cX7_cuts 4 = .ok (.ifCond .eq 10, 3) := by decide +kernel
theorem dX7_cuts_7 : decode cX7_cuts 7 = .ok (.iload_n 2, 1) := by decide +kernel
theorem dX7_cuts_8 : decode cX7_cuts 8 = .ok (.invokestatic 150, 3) := by decide +kernel
theorem dX7_cuts_11 : decode cX7_cuts 11 = .ok (.ifCond .ne 5, 3) := by decide +kernel
theorem dX7_cuts_14 : decode cX7_cuts 14 = .ok (.iconst (-1), 1) := by decide +kernel
theorem dX7_cuts_15 : decode cX7_cuts 15 = .ok (.ireturn, 1) := by decide +kernel
theorem dX7_cuts_16 : decode cX7_cuts 16 = .ok (.iload_n 1, 1) := by decide +kernel
theorem dX7_cuts_17 : decode cX7_cuts 17 = .ok (.iload_n 2, 1) := by decide +kernel
theorem dX7_cuts_18 : decode cX7_cuts 18 = .ok (.if_icmp .ne 6, 3) := by decide +kernel
theorem dX7_cuts_21 : decode cX7_cuts 21 = .ok (.bipush (-2), 2) := by decide +kernel
theorem dX7_cuts_23 : decode cX7_cuts 23 = .ok (.ireturn, 1) := by decide +kernel
theorem dX7_cuts_24 : decode cX7_cuts 24 = .ok (.aload_n 0, 1) := by decide +kernel
theorem dX7_cuts_25 : decode cX7_cuts 25 = .ok (.invokevirtual 177, 3) := by decide +kernel
theorem dX7_cuts_28 : decode cX7_cuts 28 = .ok (.aload_n 0, 1) := by decide +kernel
theorem dX7_cuts_29 : decode cX7_cuts 29 = .ok (.getfield 34, 3) := by decide +kernel
theorem dX7_cuts_32 : decode cX7_cuts 32 = .ok (.iconst 0, 1) := by decide +kernel
theorem dX7_cuts_33 : decode cX7_cuts 33 = .ok (.iaload, 1) := by decide +kernel
theorem dX7_cuts_34 : decode cX7_cuts 34 = .ok (.iconst (-1), 1) := by decide +kernel
theorem dX7_cuts_35 : decode cX7_cuts 35 = .ok (.ixor, 1) := by decide +kernel
theorem dX7_cuts_36 : decode cX7_cuts 36 = .ok (.iand, 1) := by decide +kernel
theorem dX7_cuts_37 : decode cX7_cuts 37 = .ok (.istore_n 3, 1) := by decide +kernel
theorem dX7_cuts_38 : decode cX7_cuts 38 = .ok (.iconst 0, 1) := by decide +kernel
theorem dX7_cuts_39 : decode cX7_cuts 39 = .ok (.istore 4, 2) := by decide +kernel
theorem dX7_cuts_41 : decode cX7_cuts 41 = .ok (.iload 4, 2) := by decide +kernel
theorem dX7_cuts_43 : decode cX7_cuts 43 = .ok (.iconst 1, 1) := by decide +kernel
theorem dX7_cuts_44 : decode cX7_cuts 44 = .ok (.aload_n 0, 1) := by decide +kernel
theorem dX7_cuts_45 : decode cX7_cuts 45 = .ok (.getfield 105, 3) := by decide +kernel
theorem dX7_cuts_48 : decode cX7_cuts 48 = .ok (.ishl, 1) := by decide +kernel
theorem dX7_cuts_49 : decode cX7_cuts 49 = .ok (.if_icmp .ge 88, 3) := by decide +kernel
theorem dX7_cuts_52 : decode cX7_cuts 52 = .ok (.iload 4, 2) := by decide +kernel
theorem dX7_cuts_54 : decode cX7_cuts 54 = .ok (.invokestatic 137, 3) := by decide +kernel
theorem dX7_cuts_57 : decode cX7_cuts 57 = .ok (.iload_n 3, 1) := by decide +kernel
theorem dX7_cuts_58 : decode cX7_cuts 58 = .ok (.invokestatic 137, 3) := by decide +kernel
theorem dX7_cuts_61 : decode cX7_cuts 61 = .ok (.if_icmp .lt 21, 3) := by decide +kernel
theorem dX7_cuts_64 : decode cX7_cuts 64 = .ok (.iload 4, 2) := by decide +kernel
theorem dX7_cuts_66 : decode cX7_cuts 66 = .ok (.invokestatic 137, 3) := by decide +kernel
theorem dX7_cuts_69 : decode cX7_cuts 69 = .ok (.iload_n 3, 1) := by decide +kernel
theorem dX7_cuts_70 : decode cX7_cuts 70 = .ok (.invokestatic 137, 3) := by decide +kernel
theorem dX7_cuts_73 : decode cX7_cuts 73 = .ok (.if_icmp .ne 13, 3) := by decide +kernel
theorem dX7_cuts_76 : decode cX7_cuts 76 = .ok (.iload 4, 2) := by decide +kernel
theorem dX7_cuts_78 : decode cX7_cuts 78 = .ok (.iload_n 3, 1) := by decide +kernel
theorem dX7_cuts_79 : decode cX7_cuts 79 = .ok (.if_icmp .ge 7, 3) := by decide +kernel
theorem dX7_cuts_82 : decode cX7_cuts 82 = .ok (.iconst 1, 1) := by decide +kernel
theorem dX7_cuts_83 : decode cX7_cuts 83 = .ok (.goto 4, 3) := by decide +kernel
theorem dX7_cuts_86 : decode cX7_cuts 86 = .ok (.iconst 0, 1) := by decide +kernel
theorem dX7_cuts_87 : decode cX7_cuts 87 = .ok (.istore 5, 2) := by decide +kernel
theorem dX7_cuts_89 : decode cX7_cuts 89 = .ok (.iload 5, 2) := by decide +kernel
theorem dX7_cuts_91 : decode cX7_cuts 91 = .ok (.ifCond .eq 38, 3) := by decide +kernel
theorem dX7_cuts_94 : decode cX7_cuts 94 = .ok (.iload 4, 2) := by decide +kernel
theorem dX7_cuts_96 : decode cX7_cuts 96 = .ok (.aload_n 0, 1) := by decide +kernel
theorem dX7_cuts_97 : decode cX7_cuts 97 = .ok (.getfield 34, 3) := by decide +kernel
theorem dX7_cuts_100 : decode cX7_cuts 100 = .ok (.iconst 0, 1) := by decide +kernel
theorem dX7_cuts_101 : decode cX7_cuts 101 = .ok (.iaload, 1) := by decide +kernel
theorem dX7_cuts_102 : decode cX7_cuts 102 = .ok (.iand, 1) := by decide +kernel
theorem dX7_cuts_103 : decode cX7_cuts 103 = .ok (.ifCond .ne 26, 3) := by decide +kernel
theorem dX7_cuts_106 : decode cX7_cuts 106 = .ok (.aload_n 0, 1) := by decide +kernel
theorem dX7_cuts_107 : decode cX7_cuts 107 = .ok (.iload_n 1, 1) := by decide +kernel
theorem dX7_cuts_108 : decode cX7_cuts 108 = .ok (.iload_n 2, 1) := by decide +kernel
theorem dX7_cuts_109 : decode cX7_cuts 109 = .ok (.aload_n 0, 1) := by decide +kernel
theorem dX7_cuts_110 : decode cX7_cuts 110 = .ok (.getfield 34, 3) := by decide +kernel
theorem dX7_cuts_113 : decode cX7_cuts 113 = .ok (.iconst 0, 1) := by decide +kernel
theorem dX7_cuts_114 : decode cX7_cuts 114 = .ok (.iaload, 1) := by decide +kernel
theorem dX7_cuts_115 : decode cX7_cuts 115 = .ok (.iload 4, 2) := by decide +kernel
theorem dX7_cuts_117 : decode cX7_cuts 117 = .ok (.ior, 1) := by decide +kernel
theorem dX7_cuts_118 : decode cX7_cuts 118 = .ok (.invokevirtual 126, 3) := by decide +kernel
theorem dX7_cuts_121 : decode cX7_cuts 121 = .ok (.ifCond .ne 8, 3) := by decide +kernel
theorem dX7_cuts_124 : decode cX7_cuts 124 = .ok (.iload 4, 2) := by decide +kernel
theorem dX7_cuts_126 : decode cX7_cuts 126 = .ok (.goto 4, 3) := by decide +kernel
theorem dX7_cuts_129 : decode cX7_cuts 129 = .ok (.iload_n 3, 1) := by decide +kernel
theorem dX7_cuts_130 : decode cX7_cuts 130 = .ok (.istore_n 3, 1) := by decide +kernel
theorem dX7_cuts_131 : decode cX7_cuts 131 = .ok (.iinc 4 1, 3) := by decide +kernel
theorem dX7_cuts_134 : decode cX7_cuts 134 = .ok (.goto (-93), 3) := by decide +kernel
theorem dX7_cuts_137 : decode cX7_cuts 137 = .ok (.iload_n 3, 1) := by decide +kernel
theorem dX7_cuts_138 : decode cX7_cuts 138 = .ok (.ireturn, 1) := by decide +kernel
theorem dX7_parts_0 : decode cX7_parts 0 = .ok (.iload_n 1, 1) := by decide +kernel
theorem dX7_parts_1 : decode cX7_parts 1 = .ok (.invokestatic 150, 3) := by decide +kernel
theorem dX7_parts_4 : decode cX7_parts 4 = .ok (.ifCond .eq 10, 3) := by decide +kernel
theorem dX7_parts_7 : decode cX7_parts 7 = .ok (.iload_n 2, 1) := by decide +kernel
theorem dX7_parts_8 : decode cX7_parts 8 = .ok (.invokestatic 150, 3) := by decide +kernel
theorem dX7_parts_11 : decode cX7_parts 11 = .ok (.ifCond .ne 5, 3) := by decide +kernel
theorem dX7_parts_14 : decode cX7_parts 14 = .ok (.iconst (-1), 1) := by decide +kernel
theorem dX7_parts_15 : decode cX7_parts 15 = .ok (.ireturn, 1) := by decide +kernel
theorem dX7_parts_16 : decode cX7_parts 16 = .ok (.iload_n 1, 1) := by decide +kernel
theorem dX7_parts_17 : decode cX7_parts 17 = .ok (.iload_n 2, 1) := by decide +kernel
theorem dX7_parts_18 : decode cX7_parts 18 = .ok (.if_icmp .eq 13, 3) := by decide +kernel
theorem dX7_parts_21 : decode cX7_parts 21 = .ok (.iload_n 3, 1) := by decide +kernel
theorem dX7_parts_22 : decode cX7_parts 22 = .ok (.i2l, 1) := by decide +kernel
theorem dX7_parts_23 : decode cX7_parts 23 = .ok (.lconst 0, 1) := by decide +kernel
theorem dX7_parts_24 : decode cX7_parts 24 = .ok (.lconst 1, 1) := by decide +kernel
theorem dX7_parts_25 : decode cX7_parts 25 = .ok (.invokestatic 70, 3) := by decide +kernel
theorem dX7_parts_28 : decode cX7_parts 28 = .ok (.ifCond .ne 6, 3) := by decide +kernel
theorem dX7_parts_31 : decode cX7_parts 31 = .ok (.bipush (-2), 2) := by decide +kernel
theorem dX7_parts_33 : decode cX7_parts 33 = .ok (.ireturn, 1) := by decide +kernel
theorem dX7_parts_34 : decode cX7_parts 34 = .ok (.aload_n 0, 1) := by decide +kernel
theorem dX7_parts_35 : decode cX7_parts 35 = .ok (.iload_n 1, 1) := by decide +kernel
theorem dX7_parts_36 : decode cX7_parts 36 = .ok (.iload_n 2, 1) := by decide +kernel
theorem dX7_parts_37 : decode cX7_parts 37 = .ok (.aload_n 0, 1) := by decide +kernel
theorem dX7_parts_38 : decode cX7_parts 38 = .ok (.getfield 34, 3) := by decide +kernel
theorem dX7_parts_41 : decode cX7_parts 41 = .ok (.iconst 0, 1) := by decide +kernel
theorem dX7_parts_42 : decode cX7_parts 42 = .ok (.iaload, 1) := by decide +kernel
theorem dX7_parts_43 : decode cX7_parts 43 = .ok (.invokevirtual 126, 3) := by decide +kernel
theorem dX7_parts_46 : decode cX7_parts 46 = .ok (.ifCond .ne 14, 3) := by decide +kernel
theorem dX7_parts_49 : decode cX7_parts 49 = .ok (.iload_n 3, 1) := by decide +kernel
theorem dX7_parts_50 : decode cX7_parts 50 = .ok (.ifCond .ne 7, 3) := by decide +kernel
theorem dX7_parts_53 : decode cX7_parts 53 = .ok (.iconst 0, 1) := by decide +kernel
theorem dX7_parts_54 : decode cX7_parts 54 = .ok (.goto 5, 3) := by decide +kernel
theorem dX7_parts_57 : decode cX7_parts 57 = .ok (.bipush (-9), 2) := by decide +kernel
theorem dX7_parts_59 : decode cX7_parts 59 = .ok (.ireturn, 1) := by decide +kernel
theorem dX7_parts_60 : decode cX7_parts 60 = .ok (.iconst 1, 1) := by decide +kernel
theorem dX7_parts_61 : decode cX7_parts 61 = .ok (.istore 4, 2) := by decide +kernel
theorem dX7_parts_63 : decode cX7_parts 63 = .ok (.iload 4, 2) := by decide +kernel
theorem dX7_parts_65 : decode cX7_parts 65 = .ok (.bipush 10, 2) := by decide +kernel
theorem dX7_parts_67 : decode cX7_parts 67 = .ok (.if_icmp .ge 67, 3) := by decide +kernel
theorem dX7_parts_70 : decode cX7_parts 70 = .ok (.iconst 0, 1) := by decide +kernel
theorem dX7_parts_71 : decode cX7_parts 71 = .ok (.istore 5, 2) := by decide +kernel
theorem dX7_parts_73 : decode cX7_parts 73 = .ok (.iload 5, 2) := by decide +kernel
theorem dX7_parts_75 : decode cX7_parts 75 = .ok (.bipush 6, 2) := by decide +kernel
theorem dX7_parts_77 : decode cX7_parts 77 = .ok (.if_icmp .ge 51, 3) := by decide +kernel
theorem dX7_parts_80 : decode cX7_parts 80 = .ok (.aload_n 0, 1) := by decide +kernel
theorem dX7_parts_81 : decode cX7_parts 81 = .ok (.invokevirtual 174, 3) := by decide +kernel
theorem dX7_parts_84 : decode cX7_parts 84 = .ok (.aload_n 0, 1) := by decide +kernel
theorem dX7_parts_85 : decode cX7_parts 85 = .ok (.iconst 1, 1) := by decide +kernel
theorem dX7_parts_86 : decode cX7_parts 86 = .ok (.iload 5, 2) := by decide +kernel
theorem dX7_parts_88 : decode cX7_parts 88 = .ok (.iload 4, 2) := by decide +kernel
theorem dX7_parts_90 : decode cX7_parts 90 = .ok (.invokevirtual 164, 3) := by decide +kernel
theorem dX7_parts_93 : decode cX7_parts 93 = .ok (.pop, 1) := by decide +kernel
theorem dX7_parts_94 : decode cX7_parts 94 = .ok (.aload_n 0, 1) := by decide +kernel
theorem dX7_parts_95 : decode cX7_parts 95 = .ok (.iload_n 1, 1) := by decide +kernel
theorem dX7_parts_96 : decode cX7_parts 96 = .ok (.iload_n 2, 1) := by decide +kernel
theorem dX7_parts_97 : decode cX7_parts 97 = .ok (.aload_n 0, 1) := by decide +kernel
theorem dX7_parts_98 : decode cX7_parts 98 = .ok (.getfield 34, 3) := by decide +kernel
theorem dX7_parts_101 : decode cX7_parts 101 = .ok (.bipush 9, 2) := by decide +kernel
theorem dX7_parts_103 : decode cX7_parts 103 = .ok (.iaload, 1) := by decide +kernel
theorem dX7_parts_104 : decode cX7_parts 104 = .ok (.invokevirtual 126, 3) := by decide +kernel
theorem dX7_parts_107 : decode cX7_parts 107 = .ok (.ifCond .ne 15, 3) := by decide +kernel
theorem dX7_parts_110 : decode cX7_parts 110 = .ok (.iload_n 3, 1) := by decide +kernel
theorem dX7_parts_111 : decode cX7_parts 111 = .ok (.ifCond .ne 8, 3) := by decide +kernel
theorem dX7_parts_114 : decode cX7_parts 114 = .ok (.iload 4, 2) := by decide +kernel
theorem dX7_parts_116 : decode cX7_parts 116 = .ok (.goto 5, 3) := by decide +kernel
theorem dX7_parts_119 : decode cX7_parts 119 = .ok (.iload 5, 2) := by decide +kernel
theorem dX7_parts_121 : decode cX7_parts 121 = .ok (.ireturn, 1) := by decide +kernel
theorem dX7_parts_122 : decode cX7_parts 122 = .ok (.iinc 5 1, 3) := by decide +kernel
theorem dX7_parts_125 : decode cX7_parts 125 = .ok (.goto (-52), 3) := by decide +kernel
theorem dX7_parts_128 : decode cX7_parts 128 = .ok (.iinc 4 1, 3) := by decide +kernel
theorem dX7_parts_131 : decode cX7_parts 131 = .ok (.goto (-68), 3) := by decide +kernel
theorem dX7_parts_134 : decode cX7_parts 134 = .ok (.bipush (-9), 2) := by decide +kernel
theorem dX7_parts_136 : decode cX7_parts 136 = .ok (.ireturn, 1) := by decide +kernel
theorem dX7_letsGo_0 : decode cX7_letsGo 0 = .ok (.iload_n 1, 1) := by decide +kernel
theorem dX7_letsGo_1 : decode cX7_letsGo 1 = .ok (.i2l, 1) := by decide +kernel
theorem dX7_letsGo_2 : decode cX7_letsGo 2 = .ok (.lconst 0, 1) := by decide +kernel
theorem dX7_letsGo_3 : decode cX7_letsGo 3 = .ok (.iconst 1, 1) := by decide +kernel
theorem dX7_letsGo_4 : decode cX7_letsGo 4 = .ok (.aload_n 0, 1) := by decide +kernel
theorem dX7_letsGo_5 : decode cX7_letsGo 5 = .ok (.getfield 111, 3) := by decide +kernel
theorem dX7_letsGo_8 : decode cX7_letsGo 8 = .ok (.ishl, 1) := by decide +kernel
theorem dX7_letsGo_9 : decode cX7_letsGo 9 = .ok (.iconst 1, 1) := by decide +kernel
theorem dX7_letsGo_10 : decode cX7_letsGo 10 = .ok (.isub, 1) := by decide +kernel
theorem dX7_letsGo_11 : decode cX7_letsGo 11 = .ok (.i2l, 1) := by decide +kernel
theorem dX7_letsGo_12 : decode cX7_letsGo 12 = .ok (.invokestatic 70, 3) := by decide +kernel
theorem dX7_letsGo_15 : decode cX7_letsGo 15 = .ok (.ifCond .ne 6, 3) := by decide +kernel
theorem dX7_letsGo_18 : decode cX7_letsGo 18 = .ok (.bipush (-2), 2) := by decide +kernel
theorem dX7_letsGo_20 : decode cX7_letsGo 20 = .ok (.ireturn, 1) := by decide +kernel
theorem dX7_letsGo_21 : decode cX7_letsGo 21 = .ok (.aload_n 0, 1) := by decide +kernel
theorem dX7_letsGo_22 : decode cX7_letsGo 22 = .ok (.invokevirtual 177, 3) := by decide +kernel
theorem dX7_letsGo_25 : decode cX7_letsGo 25 = .ok (.aload_n 0, 1) := by decide +kernel
theorem dX7_letsGo_26 : decode cX7_letsGo 26 = .ok (.getfield 34, 3) := by decide +kernel
theorem dX7_letsGo_29 : decode cX7_letsGo 29 = .ok (.iconst 0, 1) := by decide +kernel
theorem dX7_letsGo_30 : decode cX7_letsGo 30 = .ok (.iaload, 1) := by decide +kernel
theorem dX7_letsGo_31 : decode cX7_letsGo 31 = .ok (.iconst (-1), 1) := by decide +kernel
theorem dX7_letsGo_32 : decode cX7_letsGo 32 = .ok (.ixor, 1) := by decide +kernel
theorem dX7_letsGo_33 : decode cX7_letsGo 33 = .ok (.iand, 1) := by decide +kernel
theorem dX7_letsGo_34 : decode cX7_letsGo 34 = .ok (.istore_n 2, 1) := by decide +kernel
theorem dX7_letsGo_35 : decode cX7_letsGo 35 = .ok (.iconst 0, 1) := by decide +kernel
theorem dX7_letsGo_36 : decode cX7_letsGo 36 = .ok (.istore_n 3, 1) := by decide +kernel
theorem dX7_letsGo_37 : decode cX7_letsGo 37 = .ok (.iload_n 3, 1) := by decide +kernel
theorem dX7_letsGo_38 : decode cX7_letsGo 38 = .ok (.iconst 1, 1) := by decide +kernel
theorem dX7_letsGo_39 : decode cX7_letsGo 39 = .ok (.aload_n 0, 1) := by decide +kernel
theorem dX7_letsGo_40 : decode cX7_letsGo 40 = .ok (.getfield 105, 3) := by decide +kernel
theorem dX7_letsGo_43 : decode cX7_letsGo 43 = .ok (.ishl, 1) := by decide +kernel
theorem dX7_letsGo_44 : decode cX7_letsGo 44 = .ok (.if_icmp .ge 84, 3) := by decide +kernel
theorem dX7_letsGo_47 : decode cX7_letsGo 47 = .ok (.iload_n 3, 1) := by decide +kernel
theorem dX7_letsGo_48 : decode cX7_letsGo 48 = .ok (.invokestatic 137, 3) := by decide +kernel
theorem dX7_letsGo_51 : decode cX7_letsGo 51 = .ok (.iload_n 2, 1) := by decide +kernel
theorem dX7_letsGo_52 : decode cX7_letsGo 52 = .ok (.invokestatic 137, 3) := by decide +kernel
theorem dX7_letsGo_55 : decode cX7_letsGo 55 = .ok (.if_icmp .lt 19, 3) := by decide +kernel
theorem dX7_letsGo_58 : decode cX7_letsGo 58 = .ok (.iload_n 3, 1) := by decide +kernel
theorem dX7_letsGo_59 : decode cX7_letsGo 59 = .ok (.invokestatic 137, 3) := by decide +kernel
theorem dX7_letsGo_62 : decode cX7_letsGo 62 = .ok (.iload_n 2, 1) := by decide +kernel
theorem dX7_letsGo_63 : decode cX7_letsGo 63 = .ok (.invokestatic 137, 3) := by decide +kernel
theorem dX7_letsGo_66 : decode cX7_letsGo 66 = .ok (.if_icmp .ne 12, 3) := by decide +kernel
theorem dX7_letsGo_69 : decode cX7_letsGo 69 = .ok (.iload_n 3, 1) := by decide +kernel
theorem dX7_letsGo_70 : decode cX7_letsGo 70 = .ok (.iload_n 2, 1) := by decide +kernel
theorem dX7_letsGo_71 : decode cX7_letsGo 71 = .ok (.if_icmp .ge 7, 3) := by decide +kernel
theorem dX7_letsGo_74 : decode cX7_letsGo 74 = .ok (.iconst 1, 1) := by decide +kernel
theorem dX7_letsGo_75 : decode cX7_letsGo 75 = .ok (.goto 4, 3) := by decide +kernel
theorem dX7_letsGo_78 : decode cX7_letsGo 78 = .ok (.iconst 0, 1) := by decide +kernel
theorem dX7_letsGo_79 : decode cX7_letsGo 79 = .ok (.istore 4, 2) := by decide +kernel
theorem dX7_letsGo_81 : decode cX7_letsGo 81 = .ok (.iload 4, 2) := by decide +kernel
theorem dX7_letsGo_83 : decode cX7_letsGo 83 = .ok (.ifCond .eq 37, 3) := by decide +kernel
theorem dX7_letsGo_86 : decode cX7_letsGo 86 = .ok (.iload_n 3, 1) := by decide +kernel
theorem dX7_letsGo_87 : decode cX7_letsGo 87 = .ok (.aload_n 0, 1) := by decide +kernel
theorem dX7_letsGo_88 : decode cX7_letsGo 88 = .ok (.getfield 34, 3) := by decide +kernel
theorem dX7_letsGo_91 : decode cX7_letsGo 91 = .ok (.iconst 0, 1) := by decide +kernel
theorem dX7_letsGo_92 : decode cX7_letsGo 92 = .ok (.iaload, 1) := by decide +kernel
theorem dX7_letsGo_93 : decode cX7_letsGo 93 = .ok (.iand, 1) := by decide +kernel
theorem dX7_letsGo_94 : decode cX7_letsGo 94 = .ok (.ifCond .ne 26, 3) := by decide +kernel
theorem dX7_letsGo_97 : decode cX7_letsGo 97 = .ok (.iload_n 1, 1) := by decide +kernel
theorem dX7_letsGo_98 : decode cX7_letsGo 98 = .ok (.aload_n 0, 1) := by decide +kernel
theorem dX7_letsGo_99 : decode cX7_letsGo 99 = .ok (.aload_n 0, 1) := by decide +kernel
theorem dX7_letsGo_100 : decode cX7_letsGo 100 = .ok (.getfield 34, 3) := by decide +kernel
theorem dX7_letsGo_103 : decode cX7_letsGo 103 = .ok (.iconst 0, 1) := by decide +kernel
theorem dX7_letsGo_104 : decode cX7_letsGo 104 = .ok (.iaload, 1) := by decide +kernel
theorem dX7_letsGo_105 : decode cX7_letsGo 105 = .ok (.iload_n 3, 1) := by decide +kernel
theorem dX7_letsGo_106 : decode cX7_letsGo 106 = .ok (.ior, 1) := by decide +kernel
theorem dX7_letsGo_107 : decode cX7_letsGo 107 = .ok (.invokevirtual 180, 3) := by decide +kernel
theorem dX7_letsGo_110 : decode cX7_letsGo 110 = .ok (.iconst (-1), 1) := by decide +kernel
theorem dX7_letsGo_111 : decode cX7_letsGo 111 = .ok (.ixor, 1) := by decide +kernel
theorem dX7_letsGo_112 : decode cX7_letsGo 112 = .ok (.iand, 1) := by decide +kernel
theorem dX7_letsGo_113 : decode cX7_letsGo 113 = .ok (.ifCond .ne 7, 3) := by decide +kernel
theorem dX7_letsGo_116 : decode cX7_letsGo 116 = .ok (.iload_n 3, 1) := by decide +kernel
theorem dX7_letsGo_117 : decode cX7_letsGo 117 = .ok (.goto 4, 3) := by decide +kernel
theorem dX7_letsGo_120 : decode cX7_letsGo 120 = .ok (.iload_n 2, 1) := by decide +kernel
theorem dX7_letsGo_121 : decode cX7_letsGo 121 = .ok (.istore_n 2, 1) := by decide +kernel
theorem dX7_letsGo_122 : decode cX7_letsGo 122 = .ok (.iinc 3 1, 3) := by decide +kernel
theorem dX7_letsGo_125 : decode cX7_letsGo 125 = .ok (.goto (-88), 3) := by decide +kernel
theorem dX7_letsGo_128 : decode cX7_letsGo 128 = .ok (.iload_n 2, 1) := by decide +kernel
theorem dX7_letsGo_129 : decode cX7_letsGo 129 = .ok (.ireturn, 1) := by decide +kernel
theorem dX7_tryThing_0 : decode cX7_tryThing 0 = .ok (.iload_n 1, 1) := by decide +kernel
theorem dX7_tryThing_1 : decode cX7_tryThing 1 = .ok (.tableswitch 278 0 5 #[39, 59, 93, 140, 198, 234], 39) := by decide +kernel
theorem dX7_tryThing_40 : decode cX7_tryThing 40 = .ok (.aload_n 0, 1) := by decide +kernel
theorem dX7_tryThing_41 : decode cX7_tryThing 41 = .ok (.iconst 1, 1) := by decide +kernel
theorem dX7_tryThing_42 : decode cX7_tryThing 42 = .ok (.invokevirtual 159, 3) := by decide +kernel
theorem dX7_tryThing_45 : decode cX7_tryThing 45 = .ok (.pop, 1) := by decide +kernel
theorem dX7_tryThing_46 : decode cX7_tryThing 46 = .ok (.iload_n 2, 1) := by decide +kernel
theorem dX7_tryThing_47 : decode cX7_tryThing 47 = .ok (.ifCond .ne 11, 3) := by decide +kernel
theorem dX7_tryThing_50 : decode cX7_tryThing 50 = .ok (.iload_n 3, 1) := by decide +kernel
theorem dX7_tryThing_51 : decode cX7_tryThing 51 = .ok (.ifCond .ne 7, 3) := by decide +kernel
theorem dX7_tryThing_54 : decode cX7_tryThing 54 = .ok (.iconst 1, 1) := by decide +kernel
theorem dX7_tryThing_55 : decode cX7_tryThing 55 = .ok (.goto 4, 3) := by decide +kernel
theorem dX7_tryThing_58 : decode cX7_tryThing 58 = .ok (.iconst 0, 1) := by decide +kernel
theorem dX7_tryThing_59 : decode cX7_tryThing 59 = .ok (.ireturn, 1) := by decide +kernel
theorem dX7_tryThing_60 : decode cX7_tryThing 60 = .ok (.iload_n 2, 1) := by decide +kernel
theorem dX7_tryThing_61 : decode cX7_tryThing 61 = .ok (.invokestatic 150, 3) := by decide +kernel
theorem dX7_tryThing_64 : decode cX7_tryThing 64 = .ok (.ifCond .eq 11, 3) := by decide +kernel
theorem dX7_tryThing_67 : decode cX7_tryThing 67 = .ok (.iload_n 3, 1) := by decide +kernel
theorem dX7_tryThing_68 : decode cX7_tryThing 68 = .ok (.ifCond .le 7, 3) := by decide +kernel
theorem dX7_tryThing_71 : decode cX7_tryThing 71 = .ok (.iconst 1, 1) := by decide +kernel
theorem dX7_tryThing_72 : decode cX7_tryThing 72 = .ok (.goto 4, 3) := by decide +kernel
theorem dX7_tryThing_75 : decode cX7_tryThing 75 = .ok (.iconst 0, 1) := by decide +kernel
theorem dX7_tryThing_76 : decode cX7_tryThing 76 = .ok (.istore 4, 2) := by decide +kernel
theorem dX7_tryThing_78 : decode cX7_tryThing 78 = .ok (.iload 4, 2) := by decide +kernel
theorem dX7_tryThing_80 : decode cX7_tryThing 80 = .ok (.ifCond .eq 11, 3) := by decide +kernel
theorem dX7_tryThing_83 : decode cX7_tryThing 83 = .ok (.aload_n 0, 1) := by decide +kernel
theorem dX7_tryThing_84 : decode cX7_tryThing 84 = .ok (.iconst 1, 1) := by decide +kernel
theorem dX7_tryThing_85 : decode cX7_tryThing 85 = .ok (.iload_n 2, 1) := by decide +kernel
theorem dX7_tryThing_86 : decode cX7_tryThing 86 = .ok (.iload_n 3, 1) := by decide +kernel
theorem dX7_tryThing_87 : decode cX7_tryThing 87 = .ok (.invokevirtual 164, 3) := by decide +kernel
theorem dX7_tryThing_90 : decode cX7_tryThing 90 = .ok (.pop, 1) := by decide +kernel
theorem dX7_tryThing_91 : decode cX7_tryThing 91 = .ok (.iload 4, 2) := by decide +kernel
theorem dX7_tryThing_93 : decode cX7_tryThing 93 = .ok (.ireturn, 1) := by decide +kernel
theorem dX7_tryThing_94 : decode cX7_tryThing 94 = .ok (.iload_n 2, 1) := by decide +kernel
theorem dX7_tryThing_95 : decode cX7_tryThing 95 = .ok (.ifCond .ne 29, 3) := by decide +kernel
theorem dX7_tryThing_98 : decode cX7_tryThing 98 = .ok (.aload_n 0, 1) := by decide +kernel
theorem dX7_tryThing_99 : decode cX7_tryThing 99 = .ok (.iload_n 3, 1) := by decide +kernel
theorem dX7_tryThing_100 : decode cX7_tryThing 100 = .ok (.invokevirtual 146, 3) := by decide +kernel
theorem dX7_tryThing_103 : decode cX7_tryThing 103 = .ok (.ifCond .eq 21, 3) := by decide +kernel
theorem dX7_tryThing_106 : decode cX7_tryThing 106 = .ok (.aload_n 0, 1) := by decide +kernel
theorem dX7_tryThing_107 : decode cX7_tryThing 107 = .ok (.getfield 34, 3) := by decide +kernel
theorem dX7_tryThing_110 : decode cX7_tryThing 110 = .ok (.bipush 9, 2) := by decide +kernel
theorem dX7_tryThing_112 : decode cX7_tryThing 112 = .ok (.iaload, 1) := by decide +kernel
theorem dX7_tryThing_113 : decode cX7_tryThing 113 = .ok (.iload_n 3, 1) := by decide +kernel
theorem dX7_tryThing_114 : decode cX7_tryThing 114 = .ok (.invokestatic 119, 3) := by decide +kernel
theorem dX7_tryThing_117 : decode cX7_tryThing 117 = .ok (.ifCond .eq 7, 3) := by decide +kernel
theorem dX7_tryThing_120 : decode cX7_tryThing 120 = .ok (.iconst 1, 1) := by decide +kernel
theorem dX7_tryThing_121 : decode cX7_tryThing 121 = .ok (.goto 4, 3) := by decide +kernel
theorem dX7_tryThing_124 : decode cX7_tryThing 124 = .ok (.iconst 0, 1) := by decide +kernel
theorem dX7_tryThing_125 : decode cX7_tryThing 125 = .ok (.istore 5, 2) := by decide +kernel
theorem dX7_tryThing_127 : decode cX7_tryThing 127 = .ok (.iload 5, 2) := by decide +kernel
theorem dX7_tryThing_129 : decode cX7_tryThing 129 = .ok (.ifCond .eq 9, 3) := by decide +kernel
theorem dX7_tryThing_132 : decode cX7_tryThing 132 = .ok (.aload_n 0, 1) := by decide +kernel
theorem dX7_tryThing_133 : decode cX7_tryThing 133 = .ok (.iconst 1, 1) := by decide +kernel
theorem dX7_tryThing_134 : decode cX7_tryThing 134 = .ok (.iload_n 3, 1) := by decide +kernel
theorem dX7_tryThing_135 : decode cX7_tryThing 135 = .ok (.invokevirtual 168, 3) := by decide +kernel
theorem dX7_tryThing_138 : decode cX7_tryThing 138 = .ok (.iload 5, 2) := by decide +kernel
theorem dX7_tryThing_140 : decode cX7_tryThing 140 = .ok (.ireturn, 1) := by decide +kernel
theorem dX7_tryThing_141 : decode cX7_tryThing 141 = .ok (.iload_n 2, 1) := by decide +kernel
theorem dX7_tryThing_142 : decode cX7_tryThing 142 = .ok (.ifCond .ne 29, 3) := by decide +kernel
theorem dX7_tryThing_145 : decode cX7_tryThing 145 = .ok (.aload_n 0, 1) := by decide +kernel
theorem dX7_tryThing_146 : decode cX7_tryThing 146 = .ok (.iload_n 3, 1) := by decide +kernel
theorem dX7_tryThing_147 : decode cX7_tryThing 147 = .ok (.invokevirtual 146, 3) := by decide +kernel
theorem dX7_tryThing_150 : decode cX7_tryThing 150 = .ok (.ifCond .eq 21, 3) := by decide +kernel
theorem dX7_tryThing_153 : decode cX7_tryThing 153 = .ok (.aload_n 0, 1) := by decide +kernel
theorem dX7_tryThing_154 : decode cX7_tryThing 154 = .ok (.getfield 34, 3) := by decide +kernel
theorem dX7_tryThing_157 : decode cX7_tryThing 157 = .ok (.bipush 9, 2) := by decide +kernel
theorem dX7_tryThing_159 : decode cX7_tryThing 159 = .ok (.iaload, 1) := by decide +kernel
theorem dX7_tryThing_160 : decode cX7_tryThing 160 = .ok (.iload_n 3, 1) := by decide +kernel
theorem dX7_tryThing_161 : decode cX7_tryThing 161 = .ok (.invokestatic 119, 3) := by decide +kernel
theorem dX7_tryThing_164 : decode cX7_tryThing 164 = .ok (.ifCond .ne 7, 3) := by decide +kernel
theorem dX7_tryThing_167 : decode cX7_tryThing 167 = .ok (.iconst 1, 1) := by decide +kernel
theorem dX7_tryThing_168 : decode cX7_tryThing 168 = .ok (.goto 4, 3) := by decide +kernel
theorem dX7_tryThing_171 : decode cX7_tryThing 171 = .ok (.iconst 0, 1) := by decide +kernel
theorem dX7_tryThing_172 : decode cX7_tryThing 172 = .ok (.istore 6, 2) := by decide +kernel
theorem dX7_tryThing_174 : decode cX7_tryThing 174 = .ok (.aload_n 0, 1) := by decide +kernel
theorem dX7_tryThing_175 : decode cX7_tryThing 175 = .ok (.getfield 34, 3) := by decide +kernel
theorem dX7_tryThing_178 : decode cX7_tryThing 178 = .ok (.bipush 9, 2) := by decide +kernel
theorem dX7_tryThing_180 : decode cX7_tryThing 180 = .ok (.dup2, 1) := by decide +kernel
theorem dX7_tryThing_181 : decode cX7_tryThing 181 = .ok (.iaload, 1) := by decide +kernel
theorem dX7_tryThing_182 : decode cX7_tryThing 182 = .ok (.iload 6, 2) := by decide +kernel
theorem dX7_tryThing_184 : decode cX7_tryThing 184 = .ok (.ifCond .eq 9, 3) := by decide +kernel
theorem dX7_tryThing_187 : decode cX7_tryThing 187 = .ok (.iconst 1, 1) := by decide +kernel
theorem dX7_tryThing_188 : decode cX7_tryThing 188 = .ok (.iload_n 3, 1) := by decide +kernel
theorem dX7_tryThing_189 : decode cX7_tryThing 189 = .ok (.ishl, 1) := by decide +kernel
theorem dX7_tryThing_190 : decode cX7_tryThing 190 = .ok (.goto 4, 3) := by decide +kernel
theorem dX7_tryThing_193 : decode cX7_tryThing 193 = .ok (.iconst 0, 1) := by decide +kernel
theorem dX7_tryThing_194 : decode cX7_tryThing 194 = .ok (.ior, 1) := by decide +kernel
theorem dX7_tryThing_195 : decode cX7_tryThing 195 = .ok (.iastore, 1) := by decide +kernel
theorem dX7_tryThing_196 : decode cX7_tryThing 196 = .ok (.iload 6, 2) := by decide +kernel
theorem dX7_tryThing_198 : decode cX7_tryThing 198 = .ok (.ireturn, 1) := by decide +kernel
theorem dX7_tryThing_199 : decode cX7_tryThing 199 = .ok (.iload_n 2, 1) := by decide +kernel
theorem dX7_tryThing_200 : decode cX7_tryThing 200 = .ok (.invokestatic 150, 3) := by decide +kernel
theorem dX7_tryThing_203 : decode cX7_tryThing 203 = .ok (.ifCond .eq 30, 3) := by decide +kernel
theorem dX7_tryThing_206 : decode cX7_tryThing 206 = .ok (.iload_n 3, 1) := by decide +kernel
theorem dX7_tryThing_207 : decode cX7_tryThing 207 = .ok (.invokestatic 150, 3) := by decide +kernel
theorem dX7_tryThing_210 : decode cX7_tryThing 210 = .ok (.ifCond .eq 23, 3) := by decide +kernel
theorem dX7_tryThing_213 : decode cX7_tryThing 213 = .ok (.aload_n 0, 1) := by decide +kernel
theorem dX7_tryThing_214 : decode cX7_tryThing 214 = .ok (.iload_n 2, 1) := by decide +kernel
theorem dX7_tryThing_215 : decode cX7_tryThing 215 = .ok (.iload_n 3, 1) := by decide +kernel
theorem dX7_tryThing_216 : decode cX7_tryThing 216 = .ok (.aload_n 0, 1) := by decide +kernel
theorem dX7_tryThing_217 : decode cX7_tryThing 217 = .ok (.getfield 34, 3) := by decide +kernel
theorem dX7_tryThing_220 : decode cX7_tryThing 220 = .ok (.bipush 9, 2) := by decide +kernel
theorem dX7_tryThing_222 : decode cX7_tryThing 222 = .ok (.iaload, 1) := by decide +kernel
theorem dX7_tryThing_223 : decode cX7_tryThing 223 = .ok (.invokevirtual 126, 3) := by decide +kernel
theorem dX7_tryThing_226 : decode cX7_tryThing 226 = .ok (.ifCond .eq 7, 3) := by decide +kernel
theorem dX7_tryThing_229 : decode cX7_tryThing 229 = .ok (.iconst 1, 1) := by decide +kernel
theorem dX7_tryThing_230 : decode cX7_tryThing 230 = .ok (.goto 4, 3) := by decide +kernel
theorem dX7_tryThing_233 : decode cX7_tryThing 233 = .ok (.iconst 0, 1) := by decide +kernel
theorem dX7_tryThing_234 : decode cX7_tryThing 234 = .ok (.ireturn, 1) := by decide +kernel
theorem dX7_tryThing_235 : decode cX7_tryThing 235 = .ok (.iload_n 2, 1) := by decide +kernel
theorem dX7_tryThing_236 : decode cX7_tryThing 236 = .ok (.ifCond .ne 41, 3) := by decide +kernel
theorem dX7_tryThing_239 : decode cX7_tryThing 239 = .ok (.iload_n 3, 1) := by decide +kernel
theorem dX7_tryThing_240 : decode cX7_tryThing 240 = .ok (.i2l, 1) := by decide +kernel
theorem dX7_tryThing_241 : decode cX7_tryThing 241 = .ok (.lconst 0, 1) := by decide +kernel
theorem dX7_tryThing_242 : decode cX7_tryThing 242 = .ok (.aload_n 0, 1) := by decide +kernel
theorem dX7_tryThing_243 : decode cX7_tryThing 243 = .ok (.getfield 111, 3) := by decide +kernel
theorem dX7_tryThing_246 : decode cX7_tryThing 246 = .ok (.iconst 1, 1) := by decide +kernel
theorem dX7_tryThing_247 : decode cX7_tryThing 247 = .ok (.isub, 1) := by decide +kernel
theorem dX7_tryThing_248 : decode cX7_tryThing 248 = .ok (.i2l, 1) := by decide +kernel
theorem dX7_tryThing_249 : decode cX7_tryThing 249 = .ok (.invokestatic 70, 3) := by decide +kernel
theorem dX7_tryThing_252 : decode cX7_tryThing 252 = .ok (.ifCond .eq 25, 3) := by decide +kernel
theorem dX7_tryThing_255 : decode cX7_tryThing 255 = .ok (.aload_n 0, 1) := by decide +kernel
theorem dX7_tryThing_256 : decode cX7_tryThing 256 = .ok (.aload_n 0, 1) := by decide +kernel
theorem dX7_tryThing_257 : decode cX7_tryThing 257 = .ok (.getfield 34, 3) := by decide +kernel
theorem dX7_tryThing_260 : decode cX7_tryThing 260 = .ok (.bipush 9, 2) := by decide +kernel
theorem dX7_tryThing_262 : decode cX7_tryThing 262 = .ok (.iaload, 1) := by decide +kernel
theorem dX7_tryThing_263 : decode cX7_tryThing 263 = .ok (.invokevirtual 180, 3) := by decide +kernel
theorem dX7_tryThing_266 : decode cX7_tryThing 266 = .ok (.iload_n 3, 1) := by decide +kernel
theorem dX7_tryThing_267 : decode cX7_tryThing 267 = .ok (.invokestatic 119, 3) := by decide +kernel
theorem dX7_tryThing_270 : decode cX7_tryThing 270 = .ok (.ifCond .eq 7, 3) := by decide +kernel
theorem dX7_tryThing_273 : decode cX7_tryThing 273 = .ok (.iconst 1, 1) := by decide +kernel
theorem dX7_tryThing_274 : decode cX7_tryThing 274 = .ok (.goto 4, 3) := by decide +kernel
theorem dX7_tryThing_277 : decode cX7_tryThing 277 = .ok (.iconst 0, 1) := by decide +kernel
theorem dX7_tryThing_278 : decode cX7_tryThing 278 = .ok (.ireturn, 1) := by decide +kernel
theorem dX7_tryThing_279 : decode cX7_tryThing 279 = .ok (.iconst 0, 1) := by decide +kernel
theorem dX7_tryThing_280 : decode cX7_tryThing 280 = .ok (.ireturn, 1) := by decide +kernel
theorem dX7_thousandTo_0 : decode cX7_thousandTo 0 = .ok (.lconst 1, 1) := by decide +kernel
theorem dX7_thousandTo_1 : decode cX7_thousandTo 1 = .ok (.lstore_n 1, 1) := by decide +kernel
theorem dX7_thousandTo_2 : decode cX7_thousandTo 2 = .ok (.iconst 0, 1) := by decide +kernel
theorem dX7_thousandTo_3 : decode cX7_thousandTo 3 = .ok (.istore_n 3, 1) := by decide +kernel
theorem dX7_thousandTo_4 : decode cX7_thousandTo 4 = .ok (.iload_n 3, 1) := by decide +kernel
theorem dX7_thousandTo_5 : decode cX7_thousandTo 5 = .ok (.iload_n 0, 1) := by decide +kernel
theorem dX7_thousandTo_6 : decode cX7_thousandTo 6 = .ok (.if_icmp .ge 15, 3) := by decide +kernel
theorem dX7_thousandTo_9 : decode cX7_thousandTo 9 = .ok (.lload_n 1, 1) := by decide +kernel
theorem dX7_thousandTo_10 : decode cX7_thousandTo 10 = .ok (.ldc2_w 183, 3) := by decide +kernel
theorem dX7_thousandTo_13 : decode cX7_thousandTo 13 = .ok (.lmul, 1) := by decide +kernel
theorem dX7_thousandTo_14 : decode cX7_thousandTo 14 = .ok (.lstore_n 1, 1) := by decide +kernel
theorem dX7_thousandTo_15 : decode cX7_thousandTo 15 = .ok (.iinc 3 1, 3) := by decide +kernel
theorem dX7_thousandTo_18 : decode cX7_thousandTo 18 = .ok (.goto (-14), 3) := by decide +kernel
theorem dX7_thousandTo_21 : decode cX7_thousandTo 21 = .ok (.lload_n 1, 1) := by decide +kernel
theorem dX7_thousandTo_22 : decode cX7_thousandTo 22 = .ok (.lreturn, 1) := by decide +kernel
theorem dX7_judge_0 : decode cX7_judge 0 = .ok (.iload_n 1, 1) := by decide +kernel
theorem dX7_judge_1 : decode cX7_judge 1 = .ok (.i2l, 1) := by decide +kernel
theorem dX7_judge_2 : decode cX7_judge 2 = .ok (.lconst 1, 1) := by decide +kernel
theorem dX7_judge_3 : decode cX7_judge 3 = .ok (.ldc2_w 185, 3) := by decide +kernel
theorem dX7_judge_6 : decode cX7_judge 6 = .ok (.invokestatic 70, 3) := by decide +kernel
theorem dX7_judge_9 : decode cX7_judge 9 = .ok (.ifCond .eq 17, 3) := by decide +kernel
theorem dX7_judge_12 : decode cX7_judge 12 = .ok (.lload_n 2, 1) := by decide +kernel
theorem dX7_judge_13 : decode cX7_judge 13 = .ok (.lconst 0, 1) := by decide +kernel
theorem dX7_judge_14 : decode cX7_judge 14 = .ok (.iload_n 1, 1) := by decide +kernel
theorem dX7_judge_15 : decode cX7_judge 15 = .ok (.invokestatic 187, 3) := by decide +kernel
theorem dX7_judge_18 : decode cX7_judge 18 = .ok (.lconst 1, 1) := by decide +kernel
theorem dX7_judge_19 : decode cX7_judge 19 = .ok (.lsub, 1) := by decide +kernel
theorem dX7_judge_20 : decode cX7_judge 20 = .ok (.invokestatic 70, 3) := by decide +kernel
theorem dX7_judge_23 : decode cX7_judge 23 = .ok (.ifCond .ne 6, 3) := by decide +kernel
theorem dX7_judge_26 : decode cX7_judge 26 = .ok (.bipush (-2), 2) := by decide +kernel
theorem dX7_judge_28 : decode cX7_judge 28 = .ok (.ireturn, 1) := by decide +kernel
theorem dX7_judge_29 : decode cX7_judge 29 = .ok (.aload_n 0, 1) := by decide +kernel
theorem dX7_judge_30 : decode cX7_judge 30 = .ok (.invokevirtual 174, 3) := by decide +kernel
theorem dX7_judge_33 : decode cX7_judge 33 = .ok (.iconst 0, 1) := by decide +kernel
theorem dX7_judge_34 : decode cX7_judge 34 = .ok (.istore 4, 2) := by decide +kernel
theorem dX7_judge_36 : decode cX7_judge 36 = .ok (.iload 4, 2) := by decide +kernel
theorem dX7_judge_38 : decode cX7_judge 38 = .ok (.iload_n 1, 1) := by decide +kernel
theorem dX7_judge_39 : decode cX7_judge 39 = .ok (.if_icmp .ge 55, 3) := by decide +kernel
theorem dX7_judge_42 : decode cX7_judge 42 = .ok (.lload_n 2, 1) := by decide +kernel
theorem dX7_judge_43 : decode cX7_judge 43 = .ok (.iload_n 1, 1) := by decide +kernel
theorem dX7_judge_44 : decode cX7_judge 44 = .ok (.iconst 1, 1) := by decide +kernel
theorem dX7_judge_45 : decode cX7_judge 45 = .ok (.isub, 1) := by decide +kernel
theorem dX7_judge_46 : decode cX7_judge 46 = .ok (.iload 4, 2) := by decide +kernel
theorem dX7_judge_48 : decode cX7_judge 48 = .ok (.isub, 1) := by decide +kernel
theorem dX7_judge_49 : decode cX7_judge 49 = .ok (.invokestatic 187, 3) := by decide +kernel
theorem dX7_judge_52 : decode cX7_judge 52 = .ok (.ldiv, 1) := by decide +kernel
theorem dX7_judge_53 : decode cX7_judge 53 = .ok (.ldc2_w 183, 3) := by decide +kernel
theorem dX7_judge_56 : decode cX7_judge 56 = .ok (.lrem, 1) := by decide +kernel
theorem dX7_judge_57 : decode cX7_judge 57 = .ok (.l2i, 1) := by decide +kernel
theorem dX7_judge_58 : decode cX7_judge 58 = .ok (.istore 5, 2) := by decide +kernel
theorem dX7_judge_60 : decode cX7_judge 60 = .ok (.aload_n 0, 1) := by decide +kernel
theorem dX7_judge_61 : decode cX7_judge 61 = .ok (.iload 5, 2) := by decide +kernel
theorem dX7_judge_63 : decode cX7_judge 63 = .ok (.bipush 100, 2) := by decide +kernel
theorem dX7_judge_65 : decode cX7_judge 65 = .ok (.idiv, 1) := by decide +kernel
theorem dX7_judge_66 : decode cX7_judge 66 = .ok (.iload 5, 2) := by decide +kernel
theorem dX7_judge_68 : decode cX7_judge 68 = .ok (.bipush 10, 2) := by decide +kernel
theorem dX7_judge_70 : decode cX7_judge 70 = .ok (.idiv, 1) := by decide +kernel
theorem dX7_judge_71 : decode cX7_judge 71 = .ok (.bipush 10, 2) := by decide +kernel
theorem dX7_judge_73 : decode cX7_judge 73 = .ok (.irem, 1) := by decide +kernel
theorem dX7_judge_74 : decode cX7_judge 74 = .ok (.iload 5, 2) := by decide +kernel
theorem dX7_judge_76 : decode cX7_judge 76 = .ok (.bipush 10, 2) := by decide +kernel
theorem dX7_judge_78 : decode cX7_judge 78 = .ok (.irem, 1) := by decide +kernel
theorem dX7_judge_79 : decode cX7_judge 79 = .ok (.invokevirtual 191, 3) := by decide +kernel
theorem dX7_judge_82 : decode cX7_judge 82 = .ok (.ifCond .ne 6, 3) := by decide +kernel
theorem dX7_judge_85 : decode cX7_judge 85 = .ok (.iload 4, 2) := by decide +kernel
theorem dX7_judge_87 : decode cX7_judge 87 = .ok (.ireturn, 1) := by decide +kernel
theorem dX7_judge_88 : decode cX7_judge 88 = .ok (.iinc 4 1, 3) := by decide +kernel
theorem dX7_judge_91 : decode cX7_judge 91 = .ok (.goto (-55), 3) := by decide +kernel
theorem dX7_judge_94 : decode cX7_judge 94 = .ok (.bipush (-9), 2) := by decide +kernel
theorem dX7_judge_96 : decode cX7_judge 96 = .ok (.ireturn, 1) := by decide +kernel
theorem dX7_trial_0 : decode cX7_trial 0 = .ok (.iload_n 1, 1) := by decide +kernel
theorem dX7_trial_1 : decode cX7_trial 1 = .ok (.i2l, 1) := by decide +kernel
theorem dX7_trial_2 : decode cX7_trial 2 = .ok (.lconst 0, 1) := by decide +kernel
theorem dX7_trial_3 : decode cX7_trial 3 = .ok (.ldc2_w 194, 3) := by decide +kernel
theorem dX7_trial_6 : decode cX7_trial 6 = .ok (.invokestatic 70, 3) := by decide +kernel
theorem dX7_trial_9 : decode cX7_trial 9 = .ok (.ifCond .eq 13, 3) := by decide +kernel
theorem dX7_trial_12 : decode cX7_trial 12 = .ok (.iload_n 2, 1) := by decide +kernel
theorem dX7_trial_13 : decode cX7_trial 13 = .ok (.i2l, 1) := by decide +kernel
theorem dX7_trial_14 : decode cX7_trial 14 = .ok (.lconst 0, 1) := by decide +kernel
theorem dX7_trial_15 : decode cX7_trial 15 = .ok (.lconst 1, 1) := by decide +kernel
theorem dX7_trial_16 : decode cX7_trial 16 = .ok (.invokestatic 70, 3) := by decide +kernel
theorem dX7_trial_19 : decode cX7_trial 19 = .ok (.ifCond .ne 6, 3) := by decide +kernel
theorem dX7_trial_22 : decode cX7_trial 22 = .ok (.bipush (-2), 2) := by decide +kernel
theorem dX7_trial_24 : decode cX7_trial 24 = .ok (.ireturn, 1) := by decide +kernel
theorem dX7_trial_25 : decode cX7_trial 25 = .ok (.aload_n 0, 1) := by decide +kernel
theorem dX7_trial_26 : decode cX7_trial 26 = .ok (.getfield 196, 3) := by decide +kernel
theorem dX7_trial_29 : decode cX7_trial 29 = .ok (.bipush 6, 2) := by decide +kernel
theorem dX7_trial_31 : decode cX7_trial 31 = .ok (.if_icmp .ne 6, 3) := by decide +kernel
theorem dX7_trial_34 : decode cX7_trial 34 = .ok (.bipush (-4), 2) := by decide +kernel
theorem dX7_trial_36 : decode cX7_trial 36 = .ok (.ireturn, 1) := by decide +kernel
theorem dX7_trial_37 : decode cX7_trial 37 = .ok (.aload_n 0, 1) := by decide +kernel
theorem dX7_trial_38 : decode cX7_trial 38 = .ok (.getfield 55, 3) := by decide +kernel
theorem dX7_trial_41 : decode cX7_trial 41 = .ok (.aload_n 0, 1) := by decide +kernel
theorem dX7_trial_42 : decode cX7_trial 42 = .ok (.getfield 196, 3) := by decide +kernel
theorem dX7_trial_45 : decode cX7_trial 45 = .ok (.iload_n 1, 1) := by decide +kernel
theorem dX7_trial_46 : decode cX7_trial 46 = .ok (.iastore, 1) := by decide +kernel
theorem dX7_trial_47 : decode cX7_trial 47 = .ok (.aload_n 0, 1) := by decide +kernel
theorem dX7_trial_48 : decode cX7_trial 48 = .ok (.getfield 58, 3) := by decide +kernel
theorem dX7_trial_51 : decode cX7_trial 51 = .ok (.aload_n 0, 1) := by decide +kernel
theorem dX7_trial_52 : decode cX7_trial 52 = .ok (.getfield 196, 3) := by decide +kernel
theorem dX7_trial_55 : decode cX7_trial 55 = .ok (.iload_n 2, 1) := by decide +kernel
theorem dX7_trial_56 : decode cX7_trial 56 = .ok (.iastore, 1) := by decide +kernel
theorem dX7_trial_57 : decode cX7_trial 57 = .ok (.aload_n 0, 1) := by decide +kernel
theorem dX7_trial_58 : decode cX7_trial 58 = .ok (.dup, 1) := by decide +kernel
theorem dX7_trial_59 : decode cX7_trial 59 = .ok (.getfield 196, 3) := by decide +kernel
theorem dX7_trial_62 : decode cX7_trial 62 = .ok (.iconst 1, 1) := by decide +kernel
theorem dX7_trial_63 : decode cX7_trial 63 = .ok (.iadd, 1) := by decide +kernel
theorem dX7_trial_64 : decode cX7_trial 64 = .ok (.putfield 196, 3) := by decide +kernel
theorem dX7_trial_67 : decode cX7_trial 67 = .ok (.aload_n 0, 1) := by decide +kernel
theorem dX7_trial_68 : decode cX7_trial 68 = .ok (.getfield 196, 3) := by decide +kernel
theorem dX7_trial_71 : decode cX7_trial 71 = .ok (.ireturn, 1) := by decide +kernel
theorem dX7_untry_0 : decode cX7_untry 0 = .ok (.aload_n 0, 1) := by decide +kernel
theorem dX7_untry_1 : decode cX7_untry 1 = .ok (.getfield 196, 3) := by decide +kernel
theorem dX7_untry_4 : decode cX7_untry 4 = .ok (.istore_n 1, 1) := by decide +kernel
theorem dX7_untry_5 : decode cX7_untry 5 = .ok (.aload_n 0, 1) := by decide +kernel
theorem dX7_untry_6 : decode cX7_untry 6 = .ok (.iconst 0, 1) := by decide +kernel
theorem dX7_untry_7 : decode cX7_untry 7 = .ok (.putfield 196, 3) := by decide +kernel
theorem dX7_untry_10 : decode cX7_untry 10 = .ok (.iload_n 1, 1) := by decide +kernel
theorem dX7_untry_11 : decode cX7_untry 11 = .ok (.ireturn, 1) := by decide +kernel
theorem dX7_which_0 : decode cX7_which 0 = .ok (.iload_n 1, 1) := by decide +kernel
theorem dX7_which_1 : decode cX7_which 1 = .ok (.i2l, 1) := by decide +kernel
theorem dX7_which_2 : decode cX7_which 2 = .ok (.lconst 0, 1) := by decide +kernel
theorem dX7_which_3 : decode cX7_which 3 = .ok (.lconst 1, 1) := by decide +kernel
theorem dX7_which_4 : decode cX7_which 4 = .ok (.invokestatic 70, 3) := by decide +kernel
theorem dX7_which_7 : decode cX7_which 7 = .ok (.ifCond .ne 6, 3) := by decide +kernel
theorem dX7_which_10 : decode cX7_which 10 = .ok (.bipush (-2), 2) := by decide +kernel
theorem dX7_which_12 : decode cX7_which 12 = .ok (.ireturn, 1) := by decide +kernel
theorem dX7_which_13 : decode cX7_which 13 = .ok (.iconst 0, 1) := by decide +kernel
theorem dX7_which_14 : decode cX7_which 14 = .ok (.istore_n 2, 1) := by decide +kernel
theorem dX7_which_15 : decode cX7_which 15 = .ok (.bipush (-9), 2) := by decide +kernel
theorem dX7_which_17 : decode cX7_which 17 = .ok (.istore_n 3, 1) := by decide +kernel
theorem dX7_which_18 : decode cX7_which 18 = .ok (.iconst 0, 1) := by decide +kernel
theorem dX7_which_19 : decode cX7_which 19 = .ok (.istore 4, 2) := by decide +kernel
theorem dX7_which_21 : decode cX7_which 21 = .ok (.iload 4, 2) := by decide +kernel
theorem dX7_which_23 : decode cX7_which 23 = .ok (.bipush 20, 2) := by decide +kernel
theorem dX7_which_25 : decode cX7_which 25 = .ok (.if_icmp .ge 127, 3) := by decide +kernel
theorem dX7_which_28 : decode cX7_which 28 = .ok (.iload 4, 2) := by decide +kernel
theorem dX7_which_30 : decode cX7_which 30 = .ok (.bipush 10, 2) := by decide +kernel
theorem dX7_which_32 : decode cX7_which 32 = .ok (.irem, 1) := by decide +kernel
theorem dX7_which_33 : decode cX7_which 33 = .ok (.iload 4, 2) := by decide +kernel
theorem dX7_which_35 : decode cX7_which 35 = .ok (.bipush 9, 2) := by decide +kernel
theorem dX7_which_37 : decode cX7_which 37 = .ok (.if_icmp .le 7, 3) := by decide +kernel
theorem dX7_which_40 : decode cX7_which 40 = .ok (.iconst 3, 1) := by decide +kernel
theorem dX7_which_41 : decode cX7_which 41 = .ok (.goto 4, 3) := by decide +kernel
theorem dX7_which_44 : decode cX7_which 44 = .ok (.iconst 0, 1) := by decide +kernel
theorem dX7_which_45 : decode cX7_which 45 = .ok (.iadd, 1) := by decide +kernel
theorem dX7_which_46 : decode cX7_which 46 = .ok (.istore 5, 2) := by decide +kernel
theorem dX7_which_48 : decode cX7_which 48 = .ok (.iconst 1, 1) := by decide +kernel
theorem dX7_which_49 : decode cX7_which 49 = .ok (.istore 6, 2) := by decide +kernel
theorem dX7_which_51 : decode cX7_which 51 = .ok (.iconst 0, 1) := by decide +kernel
theorem dX7_which_52 : decode cX7_which 52 = .ok (.istore 7, 2) := by decide +kernel
theorem dX7_which_54 : decode cX7_which 54 = .ok (.iload 7, 2) := by decide +kernel
theorem dX7_which_56 : decode cX7_which 56 = .ok (.aload_n 0, 1) := by decide +kernel
theorem dX7_which_57 : decode cX7_which 57 = .ok (.getfield 196, 3) := by decide +kernel
theorem dX7_which_60 : decode cX7_which 60 = .ok (.if_icmp .ge 57, 3) := by decide +kernel
theorem dX7_which_63 : decode cX7_which 63 = .ok (.iload 6, 2) := by decide +kernel
theorem dX7_which_65 : decode cX7_which 65 = .ok (.ifCond .eq 43, 3) := by decide +kernel
theorem dX7_which_68 : decode cX7_which 68 = .ok (.aload_n 0, 1) := by decide +kernel
theorem dX7_which_69 : decode cX7_which 69 = .ok (.getfield 55, 3) := by decide +kernel
theorem dX7_which_72 : decode cX7_which 72 = .ok (.iload 7, 2) := by decide +kernel
theorem dX7_which_74 : decode cX7_which 74 = .ok (.iaload, 1) := by decide +kernel
theorem dX7_which_75 : decode cX7_which 75 = .ok (.iload 5, 2) := by decide +kernel
theorem dX7_which_77 : decode cX7_which 77 = .ok (.if_icmp .le 7, 3) := by decide +kernel
theorem dX7_which_80 : decode cX7_which 80 = .ok (.iconst 1, 1) := by decide +kernel
theorem dX7_which_81 : decode cX7_which 81 = .ok (.goto 4, 3) := by decide +kernel
theorem dX7_which_84 : decode cX7_which 84 = .ok (.iconst 0, 1) := by decide +kernel
theorem dX7_which_85 : decode cX7_which 85 = .ok (.aload_n 0, 1) := by decide +kernel
theorem dX7_which_86 : decode cX7_which 86 = .ok (.getfield 58, 3) := by decide +kernel
theorem dX7_which_89 : decode cX7_which 89 = .ok (.iload 7, 2) := by decide +kernel
theorem dX7_which_91 : decode cX7_which 91 = .ok (.iaload, 1) := by decide +kernel
theorem dX7_which_92 : decode cX7_which 92 = .ok (.iconst 1, 1) := by decide +kernel
theorem dX7_which_93 : decode cX7_which 93 = .ok (.if_icmp .ne 7, 3) := by decide +kernel
theorem dX7_which_96 : decode cX7_which 96 = .ok (.iconst 1, 1) := by decide +kernel
theorem dX7_which_97 : decode cX7_which 97 = .ok (.goto 4, 3) := by decide +kernel
theorem dX7_which_100 : decode cX7_which 100 = .ok (.iconst 0, 1) := by decide +kernel
theorem dX7_which_101 : decode cX7_which 101 = .ok (.if_icmp .ne 7, 3) := by decide +kernel
theorem dX7_which_104 : decode cX7_which 104 = .ok (.iconst 1, 1) := by decide +kernel
theorem dX7_which_105 : decode cX7_which 105 = .ok (.goto 4, 3) := by decide +kernel
theorem dX7_which_108 : decode cX7_which 108 = .ok (.iconst 0, 1) := by decide +kernel
theorem dX7_which_109 : decode cX7_which 109 = .ok (.istore 6, 2) := by decide +kernel
theorem dX7_which_111 : decode cX7_which 111 = .ok (.iinc 7 1, 3) := by decide +kernel
theorem dX7_which_114 : decode cX7_which 114 = .ok (.goto (-60), 3) := by decide +kernel
theorem dX7_which_117 : decode cX7_which 117 = .ok (.iload 6, 2) := by decide +kernel
theorem dX7_which_119 : decode cX7_which 119 = .ok (.ifCond .eq 12, 3) := by decide +kernel
theorem dX7_which_122 : decode cX7_which 122 = .ok (.iload_n 2, 1) := by decide +kernel
theorem dX7_which_123 : decode cX7_which 123 = .ok (.ifCond .ne 8, 3) := by decide +kernel
theorem dX7_which_126 : decode cX7_which 126 = .ok (.iload 4, 2) := by decide +kernel
theorem dX7_which_128 : decode cX7_which 128 = .ok (.goto 4, 3) := by decide +kernel
theorem dX7_which_131 : decode cX7_which 131 = .ok (.iload_n 3, 1) := by decide +kernel
theorem dX7_which_132 : decode cX7_which 132 = .ok (.istore_n 3, 1) := by decide +kernel
theorem dX7_which_133 : decode cX7_which 133 = .ok (.iload_n 2, 1) := by decide +kernel
theorem dX7_which_134 : decode cX7_which 134 = .ok (.iload 6, 2) := by decide +kernel
theorem dX7_which_136 : decode cX7_which 136 = .ok (.ifCond .eq 7, 3) := by decide +kernel
theorem dX7_which_139 : decode cX7_which 139 = .ok (.iconst 1, 1) := by decide +kernel
theorem dX7_which_140 : decode cX7_which 140 = .ok (.goto 4, 3) := by decide +kernel
theorem dX7_which_143 : decode cX7_which 143 = .ok (.iconst 0, 1) := by decide +kernel
theorem dX7_which_144 : decode cX7_which 144 = .ok (.iadd, 1) := by decide +kernel
theorem dX7_which_145 : decode cX7_which 145 = .ok (.istore_n 2, 1) := by decide +kernel
theorem dX7_which_146 : decode cX7_which 146 = .ok (.iinc 4 1, 3) := by decide +kernel
theorem dX7_which_149 : decode cX7_which 149 = .ok (.goto (-128), 3) := by decide +kernel
theorem dX7_which_152 : decode cX7_which 152 = .ok (.iload_n 1, 1) := by decide +kernel
theorem dX7_which_153 : decode cX7_which 153 = .ok (.ifCond .ne 7, 3) := by decide +kernel
theorem dX7_which_156 : decode cX7_which 156 = .ok (.iload_n 2, 1) := by decide +kernel
theorem dX7_which_157 : decode cX7_which 157 = .ok (.goto 4, 3) := by decide +kernel
theorem dX7_which_160 : decode cX7_which 160 = .ok (.iload_n 3, 1) := by decide +kernel
theorem dX7_which_161 : decode cX7_which 161 = .ok (.ireturn, 1) := by decide +kernel
theorem dX7_factorial_0 : decode cX7_factorial 0 = .ok (.iconst 1, 1) := by decide +kernel
theorem dX7_factorial_1 : decode cX7_factorial 1 = .ok (.istore_n 1, 1) := by decide +kernel
theorem dX7_factorial_2 : decode cX7_factorial 2 = .ok (.iconst 2, 1) := by decide +kernel
theorem dX7_factorial_3 : decode cX7_factorial 3 = .ok (.istore_n 2, 1) := by decide +kernel
theorem dX7_factorial_4 : decode cX7_factorial 4 = .ok (.iload_n 2, 1) := by decide +kernel
theorem dX7_factorial_5 : decode cX7_factorial 5 = .ok (.iload_n 0, 1) := by decide +kernel
theorem dX7_factorial_6 : decode cX7_factorial 6 = .ok (.if_icmp .gt 13, 3) := by decide +kernel
theorem dX7_factorial_9 : decode cX7_factorial 9 = .ok (.iload_n 1, 1) := by decide +kernel
theorem dX7_factorial_10 : decode cX7_factorial 10 = .ok (.iload_n 2, 1) := by decide +kernel
theorem dX7_factorial_11 : decode cX7_factorial 11 = .ok (.imul, 1) := by decide +kernel
theorem dX7_factorial_12 : decode cX7_factorial 12 = .ok (.istore_n 1, 1) := by decide +kernel
theorem dX7_factorial_13 : decode cX7_factorial 13 = .ok (.iinc 2 1, 3) := by decide +kernel
theorem dX7_factorial_16 : decode cX7_factorial 16 = .ok (.goto (-12), 3) := by decide +kernel
theorem dX7_factorial_19 : decode cX7_factorial 19 = .ok (.iload_n 1, 1) := by decide +kernel
theorem dX7_factorial_20 : decode cX7_factorial 20 = .ok (.ireturn, 1) := by decide +kernel
theorem dX7_common_0 : decode cX7_common 0 = .ok (.iload_n 0, 1) := by decide +kernel
theorem dX7_common_1 : decode cX7_common 1 = .ok (.ifCond .ge 8, 3) := by decide +kernel
theorem dX7_common_4 : decode cX7_common 4 = .ok (.iload_n 0, 1) := by decide +kernel
theorem dX7_common_5 : decode cX7_common 5 = .ok (.ineg, 1) := by decide +kernel
theorem dX7_common_6 : decode cX7_common 6 = .ok (.goto 4, 3) := by decide +kernel
theorem dX7_common_9 : decode cX7_common 9 = .ok (.iload_n 0, 1) := by decide +kernel
theorem dX7_common_10 : decode cX7_common 10 = .ok (.istore_n 2, 1) := by decide +kernel
theorem dX7_common_11 : decode cX7_common 11 = .ok (.iload_n 1, 1) := by decide +kernel
theorem dX7_common_12 : decode cX7_common 12 = .ok (.istore_n 3, 1) := by decide +kernel
theorem dX7_common_13 : decode cX7_common 13 = .ok (.iload_n 3, 1) := by decide +kernel
theorem dX7_common_14 : decode cX7_common 14 = .ok (.ifCond .eq 16, 3) := by decide +kernel
theorem dX7_common_17 : decode cX7_common 17 = .ok (.iload_n 2, 1) := by decide +kernel
theorem dX7_common_18 : decode cX7_common 18 = .ok (.iload_n 3, 1) := by decide +kernel
theorem dX7_common_19 : decode cX7_common 19 = .ok (.irem, 1) := by decide +kernel
theorem dX7_common_20 : decode cX7_common 20 = .ok (.istore 4, 2) := by decide +kernel
theorem dX7_common_22 : decode cX7_common 22 = .ok (.iload_n 3, 1) := by decide +kernel
theorem dX7_common_23 : decode cX7_common 23 = .ok (.istore_n 2, 1) := by decide +kernel
theorem dX7_common_24 : decode cX7_common 24 = .ok (.iload 4, 2) := by decide +kernel
theorem dX7_common_26 : decode cX7_common 26 = .ok (.istore_n 3, 1) := by decide +kernel
theorem dX7_common_27 : decode cX7_common 27 = .ok (.goto (-14), 3) := by decide +kernel
theorem dX7_common_30 : decode cX7_common 30 = .ok (.iload_n 2, 1) := by decide +kernel
theorem dX7_common_31 : decode cX7_common 31 = .ok (.ireturn, 1) := by decide +kernel
theorem dX7_share_0 : decode cX7_share 0 = .ok (.aload_n 0, 1) := by decide +kernel
theorem dX7_share_1 : decode cX7_share 1 = .ok (.iload_n 1, 1) := by decide +kernel
theorem dX7_share_2 : decode cX7_share 2 = .ok (.invokevirtual 146, 3) := by decide +kernel
theorem dX7_share_5 : decode cX7_share 5 = .ok (.ifCond .ne 5, 3) := by decide +kernel
theorem dX7_share_8 : decode cX7_share 8 = .ok (.iconst (-1), 1) := by decide +kernel
theorem dX7_share_9 : decode cX7_share 9 = .ok (.ireturn, 1) := by decide +kernel
theorem dX7_share_10 : decode cX7_share 10 = .ok (.aload_n 0, 1) := by decide +kernel
theorem dX7_share_11 : decode cX7_share 11 = .ok (.invokevirtual 177, 3) := by decide +kernel
theorem dX7_share_14 : decode cX7_share 14 = .ok (.aload_n 0, 1) := by decide +kernel
theorem dX7_share_15 : decode cX7_share 15 = .ok (.getfield 34, 3) := by decide +kernel
theorem dX7_share_18 : decode cX7_share 18 = .ok (.iconst 0, 1) := by decide +kernel
theorem dX7_share_19 : decode cX7_share 19 = .ok (.iaload, 1) := by decide +kernel
theorem dX7_share_20 : decode cX7_share 20 = .ok (.iconst (-1), 1) := by decide +kernel
theorem dX7_share_21 : decode cX7_share 21 = .ok (.ixor, 1) := by decide +kernel
theorem dX7_share_22 : decode cX7_share 22 = .ok (.iand, 1) := by decide +kernel
theorem dX7_share_23 : decode cX7_share 23 = .ok (.istore_n 3, 1) := by decide +kernel
theorem dX7_share_24 : decode cX7_share 24 = .ok (.iconst 0, 1) := by decide +kernel
theorem dX7_share_25 : decode cX7_share 25 = .ok (.istore 4, 2) := by decide +kernel
theorem dX7_share_27 : decode cX7_share 27 = .ok (.iconst 0, 1) := by decide +kernel
theorem dX7_share_28 : decode cX7_share 28 = .ok (.istore 5, 2) := by decide +kernel
theorem dX7_share_30 : decode cX7_share 30 = .ok (.iload 5, 2) := by decide +kernel
theorem dX7_share_32 : decode cX7_share 32 = .ok (.iconst 1, 1) := by decide +kernel
theorem dX7_share_33 : decode cX7_share 33 = .ok (.aload_n 0, 1) := by decide +kernel
theorem dX7_share_34 : decode cX7_share 34 = .ok (.getfield 105, 3) := by decide +kernel
theorem dX7_share_37 : decode cX7_share 37 = .ok (.ishl, 1) := by decide +kernel
theorem dX7_share_38 : decode cX7_share 38 = .ok (.if_icmp .ge 102, 3) := by decide +kernel
theorem dX7_share_41 : decode cX7_share 41 = .ok (.iload 5, 2) := by decide +kernel
theorem dX7_share_43 : decode cX7_share 43 = .ok (.iload_n 3, 1) := by decide +kernel
theorem dX7_share_44 : decode cX7_share 44 = .ok (.iconst (-1), 1) := by decide +kernel
theorem dX7_share_45 : decode cX7_share 45 = .ok (.ixor, 1) := by decide +kernel
theorem dX7_share_46 : decode cX7_share 46 = .ok (.iand, 1) := by decide +kernel
theorem dX7_share_47 : decode cX7_share 47 = .ok (.ifCond .ne 87, 3) := by decide +kernel
theorem dX7_share_50 : decode cX7_share 50 = .ok (.iload_n 3, 1) := by decide +kernel
theorem dX7_share_51 : decode cX7_share 51 = .ok (.iload_n 1, 1) := by decide +kernel
theorem dX7_share_52 : decode cX7_share 52 = .ok (.invokestatic 119, 3) := by decide +kernel
theorem dX7_share_55 : decode cX7_share 55 = .ok (.ifCond .eq 79, 3) := by decide +kernel
theorem dX7_share_58 : decode cX7_share 58 = .ok (.iload 5, 2) := by decide +kernel
theorem dX7_share_60 : decode cX7_share 60 = .ok (.iload_n 1, 1) := by decide +kernel
theorem dX7_share_61 : decode cX7_share 61 = .ok (.invokestatic 119, 3) := by decide +kernel
theorem dX7_share_64 : decode cX7_share 64 = .ok (.ifCond .ne 70, 3) := by decide +kernel
theorem dX7_share_67 : decode cX7_share 67 = .ok (.iload 5, 2) := by decide +kernel
theorem dX7_share_69 : decode cX7_share 69 = .ok (.invokestatic 137, 3) := by decide +kernel
theorem dX7_share_72 : decode cX7_share 72 = .ok (.invokestatic 199, 3) := by decide +kernel
theorem dX7_share_75 : decode cX7_share 75 = .ok (.iload_n 3, 1) := by decide +kernel
theorem dX7_share_76 : decode cX7_share 76 = .ok (.invokestatic 137, 3) := by decide +kernel
theorem dX7_share_79 : decode cX7_share 79 = .ok (.iconst 1, 1) := by decide +kernel
theorem dX7_share_80 : decode cX7_share 80 = .ok (.isub, 1) := by decide +kernel
theorem dX7_share_81 : decode cX7_share 81 = .ok (.iload 5, 2) := by decide +kernel
theorem dX7_share_83 : decode cX7_share 83 = .ok (.invokestatic 137, 3) := by decide +kernel
theorem dX7_share_86 : decode cX7_share 86 = .ok (.isub, 1) := by decide +kernel
theorem dX7_share_87 : decode cX7_share 87 = .ok (.invokestatic 199, 3) := by decide +kernel
theorem dX7_share_90 : decode cX7_share 90 = .ok (.imul, 1) := by decide +kernel
theorem dX7_share_91 : decode cX7_share 91 = .ok (.istore 6, 2) := by decide +kernel
theorem dX7_share_93 : decode cX7_share 93 = .ok (.iload 4, 2) := by decide +kernel
theorem dX7_share_95 : decode cX7_share 95 = .ok (.iload 6, 2) := by decide +kernel
theorem dX7_share_97 : decode cX7_share 97 = .ok (.aload_n 0, 1) := by decide +kernel
theorem dX7_share_98 : decode cX7_share 98 = .ok (.aload_n 0, 1) := by decide +kernel
theorem dX7_share_99 : decode cX7_share 99 = .ok (.invokevirtual 177, 3) := by decide +kernel
theorem dX7_share_102 : decode cX7_share 102 = .ok (.iload 5, 2) := by decide +kernel
theorem dX7_share_104 : decode cX7_share 104 = .ok (.iconst (-1), 1) := by decide +kernel
theorem dX7_share_105 : decode cX7_share 105 = .ok (.ixor, 1) := by decide +kernel
theorem dX7_share_106 : decode cX7_share 106 = .ok (.iand, 1) := by decide +kernel
theorem dX7_share_107 : decode cX7_share 107 = .ok (.iconst 1, 1) := by decide +kernel
theorem dX7_share_108 : decode cX7_share 108 = .ok (.iload_n 1, 1) := by decide +kernel
theorem dX7_share_109 : decode cX7_share 109 = .ok (.ishl, 1) := by decide +kernel
theorem dX7_share_110 : decode cX7_share 110 = .ok (.iconst (-1), 1) := by decide +kernel
theorem dX7_share_111 : decode cX7_share 111 = .ok (.ixor, 1) := by decide +kernel
theorem dX7_share_112 : decode cX7_share 112 = .ok (.iand, 1) := by decide +kernel
theorem dX7_share_113 : decode cX7_share 113 = .ok (.invokevirtual 202, 3) := by decide +kernel
theorem dX7_share_116 : decode cX7_share 116 = .ok (.aload_n 0, 1) := by decide +kernel
theorem dX7_share_117 : decode cX7_share 117 = .ok (.aload_n 0, 1) := by decide +kernel
theorem dX7_share_118 : decode cX7_share 118 = .ok (.invokevirtual 177, 3) := by decide +kernel
theorem dX7_share_121 : decode cX7_share 121 = .ok (.iload 5, 2) := by decide +kernel
theorem dX7_share_123 : decode cX7_share 123 = .ok (.iconst (-1), 1) := by decide +kernel
theorem dX7_share_124 : decode cX7_share 124 = .ok (.ixor, 1) := by decide +kernel
theorem dX7_share_125 : decode cX7_share 125 = .ok (.iand, 1) := by decide +kernel
theorem dX7_share_126 : decode cX7_share 126 = .ok (.invokevirtual 202, 3) := by decide +kernel
theorem dX7_share_129 : decode cX7_share 129 = .ok (.isub, 1) := by decide +kernel
theorem dX7_share_130 : decode cX7_share 130 = .ok (.imul, 1) := by decide +kernel
theorem dX7_share_131 : decode cX7_share 131 = .ok (.iadd, 1) := by decide +kernel
theorem dX7_share_132 : decode cX7_share 132 = .ok (.istore 4, 2) := by decide +kernel
theorem dX7_share_134 : decode cX7_share 134 = .ok (.iinc 5 1, 3) := by decide +kernel
theorem dX7_share_137 : decode cX7_share 137 = .ok (.goto (-107), 3) := by decide +kernel
theorem dX7_share_140 : decode cX7_share 140 = .ok (.iload 4, 2) := by decide +kernel
theorem dX7_share_142 : decode cX7_share 142 = .ok (.iload_n 3, 1) := by decide +kernel
theorem dX7_share_143 : decode cX7_share 143 = .ok (.invokestatic 137, 3) := by decide +kernel
theorem dX7_share_146 : decode cX7_share 146 = .ok (.invokestatic 199, 3) := by decide +kernel
theorem dX7_share_149 : decode cX7_share 149 = .ok (.invokestatic 205, 3) := by decide +kernel
theorem dX7_share_152 : decode cX7_share 152 = .ok (.istore 5, 2) := by decide +kernel
theorem dX7_share_154 : decode cX7_share 154 = .ok (.iload_n 2, 1) := by decide +kernel
theorem dX7_share_155 : decode cX7_share 155 = .ok (.ifCond .eq 11, 3) := by decide +kernel
theorem dX7_share_158 : decode cX7_share 158 = .ok (.iload 4, 2) := by decide +kernel
theorem dX7_share_160 : decode cX7_share 160 = .ok (.iload 5, 2) := by decide +kernel
theorem dX7_share_162 : decode cX7_share 162 = .ok (.idiv, 1) := by decide +kernel
theorem dX7_share_163 : decode cX7_share 163 = .ok (.goto 13, 3) := by decide +kernel
theorem dX7_share_166 : decode cX7_share 166 = .ok (.iload_n 3, 1) := by decide +kernel
theorem dX7_share_167 : decode cX7_share 167 = .ok (.invokestatic 137, 3) := by decide +kernel
theorem dX7_share_170 : decode cX7_share 170 = .ok (.invokestatic 199, 3) := by decide +kernel
theorem dX7_share_173 : decode cX7_share 173 = .ok (.iload 5, 2) := by decide +kernel
theorem dX7_share_175 : decode cX7_share 175 = .ok (.idiv, 1) := by decide +kernel
theorem dX7_share_176 : decode cX7_share 176 = .ok (.ireturn, 1) := by decide +kernel
theorem dX7_gain_0 : decode cX7_gain 0 = .ok (.aload_n 0, 1) := by decide +kernel
theorem dX7_gain_1 : decode cX7_gain 1 = .ok (.invokevirtual 174, 3) := by decide +kernel
theorem dX7_gain_4 : decode cX7_gain 4 = .ok (.aload_n 0, 1) := by decide +kernel
theorem dX7_gain_5 : decode cX7_gain 5 = .ok (.invokevirtual 140, 3) := by decide +kernel
theorem dX7_gain_8 : decode cX7_gain 8 = .ok (.aload_n 0, 1) := by decide +kernel
theorem dX7_gain_9 : decode cX7_gain 9 = .ok (.getfield 49, 3) := by decide +kernel
theorem dX7_gain_12 : decode cX7_gain 12 = .ok (.iload_n 1, 1) := by decide +kernel
theorem dX7_gain_13 : decode cX7_gain 13 = .ok (.iconst 3, 1) := by decide +kernel
theorem dX7_gain_14 : decode cX7_gain 14 = .ok (.iload_n 3, 1) := by decide +kernel
theorem dX7_gain_15 : decode cX7_gain 15 = .ok (.imul, 1) := by decide +kernel
theorem dX7_gain_16 : decode cX7_gain 16 = .ok (.iastore, 1) := by decide +kernel
theorem dX7_gain_17 : decode cX7_gain 17 = .ok (.aload_n 0, 1) := by decide +kernel
theorem dX7_gain_18 : decode cX7_gain 18 = .ok (.getfield 49, 3) := by decide +kernel
theorem dX7_gain_21 : decode cX7_gain 21 = .ok (.iload_n 2, 1) := by decide +kernel
theorem dX7_gain_22 : decode cX7_gain 22 = .ok (.iconst 3, 1) := by decide +kernel
theorem dX7_gain_23 : decode cX7_gain 23 = .ok (.iload 4, 2) := by decide +kernel
theorem dX7_gain_25 : decode cX7_gain 25 = .ok (.imul, 1) := by decide +kernel
theorem dX7_gain_26 : decode cX7_gain 26 = .ok (.iastore, 1) := by decide +kernel
theorem dX7_gain_27 : decode cX7_gain 27 = .ok (.aload_n 0, 1) := by decide +kernel
theorem dX7_gain_28 : decode cX7_gain 28 = .ok (.iconst 1, 1) := by decide +kernel
theorem dX7_gain_29 : decode cX7_gain 29 = .ok (.invokevirtual 143, 3) := by decide +kernel
theorem dX7_gain_32 : decode cX7_gain 32 = .ok (.pop, 1) := by decide +kernel
theorem dX7_gain_33 : decode cX7_gain 33 = .ok (.aload_n 0, 1) := by decide +kernel
theorem dX7_gain_34 : decode cX7_gain 34 = .ok (.iload_n 1, 1) := by decide +kernel
theorem dX7_gain_35 : decode cX7_gain 35 = .ok (.aload_n 0, 1) := by decide +kernel
theorem dX7_gain_36 : decode cX7_gain 36 = .ok (.getfield 34, 3) := by decide +kernel
theorem dX7_gain_39 : decode cX7_gain 39 = .ok (.bipush 9, 2) := by decide +kernel
theorem dX7_gain_41 : decode cX7_gain 41 = .ok (.iaload, 1) := by decide +kernel
theorem dX7_gain_42 : decode cX7_gain 42 = .ok (.invokevirtual 123, 3) := by decide +kernel
theorem dX7_gain_45 : decode cX7_gain 45 = .ok (.istore 5, 2) := by decide +kernel
theorem dX7_gain_47 : decode cX7_gain 47 = .ok (.iload 5, 2) := by decide +kernel
theorem dX7_gain_49 : decode cX7_gain 49 = .ok (.iload_n 2, 1) := by decide +kernel
theorem dX7_gain_50 : decode cX7_gain 50 = .ok (.invokestatic 119, 3) := by decide +kernel
theorem dX7_gain_53 : decode cX7_gain 53 = .ok (.ifCond .eq 7, 3) := by decide +kernel
theorem dX7_gain_56 : decode cX7_gain 56 = .ok (.iconst 0, 1) := by decide +kernel
theorem dX7_gain_57 : decode cX7_gain 57 = .ok (.goto 4, 3) := by decide +kernel
theorem dX7_gain_60 : decode cX7_gain 60 = .ok (.iconst 4, 1) := by decide +kernel
theorem dX7_gain_61 : decode cX7_gain 61 = .ok (.iload_n 3, 1) := by decide +kernel
theorem dX7_gain_62 : decode cX7_gain 62 = .ok (.isub, 1) := by decide +kernel
theorem dX7_gain_63 : decode cX7_gain 63 = .ok (.iload 5, 2) := by decide +kernel
theorem dX7_gain_65 : decode cX7_gain 65 = .ok (.iconst 1, 1) := by decide +kernel
theorem dX7_gain_66 : decode cX7_gain 66 = .ok (.iload_n 1, 1) := by decide +kernel
theorem dX7_gain_67 : decode cX7_gain 67 = .ok (.ishl, 1) := by decide +kernel
theorem dX7_gain_68 : decode cX7_gain 68 = .ok (.if_icmp .ne 7, 3) := by decide +kernel
theorem dX7_gain_71 : decode cX7_gain 71 = .ok (.iconst 2, 1) := by decide +kernel
theorem dX7_gain_72 : decode cX7_gain 72 = .ok (.goto 4, 3) := by decide +kernel
theorem dX7_gain_75 : decode cX7_gain 75 = .ok (.iconst 0, 1) := by decide +kernel
theorem dX7_gain_76 : decode cX7_gain 76 = .ok (.isub, 1) := by decide +kernel
theorem dX7_gain_77 : decode cX7_gain 77 = .ok (.ireturn, 1) := by decide +kernel
theorem dX7_isRest_0 : decode cX7_isRest 0 = .ok (.iconst 1, 1) := by decide +kernel
theorem dX7_isRest_1 : decode cX7_isRest 1 = .ok (.istore 5, 2) := by decide +kernel
theorem dX7_isRest_3 : decode cX7_isRest 3 = .ok (.iconst 0, 1) := by decide +kernel
theorem dX7_isRest_4 : decode cX7_isRest 4 = .ok (.istore 6, 2) := by decide +kernel
theorem dX7_isRest_6 : decode cX7_isRest 6 = .ok (.iload 6, 2) := by decide +kernel
theorem dX7_isRest_8 : decode cX7_isRest 8 = .ok (.iconst 3, 1) := by decide +kernel
theorem dX7_isRest_9 : decode cX7_isRest 9 = .ok (.if_icmp .ge 64, 3) := by decide +kernel
theorem dX7_isRest_12 : decode cX7_isRest 12 = .ok (.iload 5, 2) := by decide +kernel
theorem dX7_isRest_14 : decode cX7_isRest 14 = .ok (.ifCond .eq 50, 3) := by decide +kernel
theorem dX7_isRest_17 : decode cX7_isRest 17 = .ok (.aload_n 0, 1) := by decide +kernel
theorem dX7_isRest_18 : decode cX7_isRest 18 = .ok (.iload_n 1, 1) := by decide +kernel
theorem dX7_isRest_19 : decode cX7_isRest 19 = .ok (.iload_n 2, 1) := by decide +kernel
theorem dX7_isRest_20 : decode cX7_isRest 20 = .ok (.iload 6, 2) := by decide +kernel
theorem dX7_isRest_22 : decode cX7_isRest 22 = .ok (.iload 4, 2) := by decide +kernel
theorem dX7_isRest_24 : decode cX7_isRest 24 = .ok (.invokevirtual 208, 3) := by decide +kernel
theorem dX7_isRest_27 : decode cX7_isRest 27 = .ok (.aload_n 0, 1) := by decide +kernel
theorem dX7_isRest_28 : decode cX7_isRest 28 = .ok (.iload_n 1, 1) := by decide +kernel
theorem dX7_isRest_29 : decode cX7_isRest 29 = .ok (.iload_n 2, 1) := by decide +kernel
theorem dX7_isRest_30 : decode cX7_isRest 30 = .ok (.iload_n 3, 1) := by decide +kernel
theorem dX7_isRest_31 : decode cX7_isRest 31 = .ok (.iload 4, 2) := by decide +kernel
theorem dX7_isRest_33 : decode cX7_isRest 33 = .ok (.invokevirtual 208, 3) := by decide +kernel
theorem dX7_isRest_36 : decode cX7_isRest 36 = .ok (.if_icmp .gt 28, 3) := by decide +kernel
theorem dX7_isRest_39 : decode cX7_isRest 39 = .ok (.aload_n 0, 1) := by decide +kernel
theorem dX7_isRest_40 : decode cX7_isRest 40 = .ok (.iload_n 2, 1) := by decide +kernel
theorem dX7_isRest_41 : decode cX7_isRest 41 = .ok (.iload_n 1, 1) := by decide +kernel
theorem dX7_isRest_42 : decode cX7_isRest 42 = .ok (.iload 6, 2) := by decide +kernel
theorem dX7_isRest_44 : decode cX7_isRest 44 = .ok (.iload_n 3, 1) := by decide +kernel
theorem dX7_isRest_45 : decode cX7_isRest 45 = .ok (.invokevirtual 208, 3) := by decide +kernel
theorem dX7_isRest_48 : decode cX7_isRest 48 = .ok (.aload_n 0, 1) := by decide +kernel
theorem dX7_isRest_49 : decode cX7_isRest 49 = .ok (.iload_n 2, 1) := by decide +kernel
theorem dX7_isRest_50 : decode cX7_isRest 50 = .ok (.iload_n 1, 1) := by decide +kernel
theorem dX7_isRest_51 : decode cX7_isRest 51 = .ok (.iload 4, 2) := by decide +kernel
theorem dX7_isRest_53 : decode cX7_isRest 53 = .ok (.iload_n 3, 1) := by decide +kernel
theorem dX7_isRest_54 : decode cX7_isRest 54 = .ok (.invokevirtual 208, 3) := by decide +kernel
theorem dX7_isRest_57 : decode cX7_isRest 57 = .ok (.if_icmp .gt 7, 3) := by decide +kernel
theorem dX7_isRest_60 : decode cX7_isRest 60 = .ok (.iconst 1, 1) := by decide +kernel
theorem dX7_isRest_61 : decode cX7_isRest 61 = .ok (.goto 4, 3) := by decide +kernel
theorem dX7_isRest_64 : decode cX7_isRest 64 = .ok (.iconst 0, 1) := by decide +kernel
theorem dX7_isRest_65 : decode cX7_isRest 65 = .ok (.istore 5, 2) := by decide +kernel
theorem dX7_isRest_67 : decode cX7_isRest 67 = .ok (.iinc 6 1, 3) := by decide +kernel
theorem dX7_isRest_70 : decode cX7_isRest 70 = .ok (.goto (-64), 3) := by decide +kernel
theorem dX7_isRest_73 : decode cX7_isRest 73 = .ok (.iload 5, 2) := by decide +kernel
theorem dX7_isRest_75 : decode cX7_isRest 75 = .ok (.ireturn, 1) := by decide +kernel
theorem dX7_rests_0 : decode cX7_rests 0 = .ok (.iload_n 1, 1) := by decide +kernel
theorem dX7_rests_1 : decode cX7_rests 1 = .ok (.invokestatic 150, 3) := by decide +kernel
theorem dX7_rests_4 : decode cX7_rests 4 = .ok (.ifCond .eq 10, 3) := by decide +kernel
theorem dX7_rests_7 : decode cX7_rests 7 = .ok (.iload_n 2, 1) := by decide +kernel
theorem dX7_rests_8 : decode cX7_rests 8 = .ok (.invokestatic 150, 3) := by decide +kernel
theorem dX7_rests_11 : decode cX7_rests 11 = .ok (.ifCond .ne 5, 3) := by decide +kernel
theorem dX7_rests_14 : decode cX7_rests 14 = .ok (.iconst (-1), 1) := by decide +kernel
theorem dX7_rests_15 : decode cX7_rests 15 = .ok (.ireturn, 1) := by decide +kernel
theorem dX7_rests_16 : decode cX7_rests 16 = .ok (.iload_n 1, 1) := by decide +kernel
theorem dX7_rests_17 : decode cX7_rests 17 = .ok (.iload_n 2, 1) := by decide +kernel
theorem dX7_rests_18 : decode cX7_rests 18 = .ok (.if_icmp .eq 13, 3) := by decide +kernel
theorem dX7_rests_21 : decode cX7_rests 21 = .ok (.iload_n 3, 1) := by decide +kernel
theorem dX7_rests_22 : decode cX7_rests 22 = .ok (.i2l, 1) := by decide +kernel
theorem dX7_rests_23 : decode cX7_rests 23 = .ok (.lconst 0, 1) := by decide +kernel
theorem dX7_rests_24 : decode cX7_rests 24 = .ok (.lconst 1, 1) := by decide +kernel
theorem dX7_rests_25 : decode cX7_rests 25 = .ok (.invokestatic 70, 3) := by decide +kernel
theorem dX7_rests_28 : decode cX7_rests 28 = .ok (.ifCond .ne 6, 3) := by decide +kernel
theorem dX7_rests_31 : decode cX7_rests 31 = .ok (.bipush (-2), 2) := by decide +kernel
theorem dX7_rests_33 : decode cX7_rests 33 = .ok (.ireturn, 1) := by decide +kernel
theorem dX7_rests_34 : decode cX7_rests 34 = .ok (.iconst 0, 1) := by decide +kernel
theorem dX7_rests_35 : decode cX7_rests 35 = .ok (.istore 4, 2) := by decide +kernel
theorem dX7_rests_37 : decode cX7_rests 37 = .ok (.bipush (-9), 2) := by decide +kernel
theorem dX7_rests_39 : decode cX7_rests 39 = .ok (.istore 5, 2) := by decide +kernel
theorem dX7_rests_41 : decode cX7_rests 41 = .ok (.iconst 0, 1) := by decide +kernel
theorem dX7_rests_42 : decode cX7_rests 42 = .ok (.istore 6, 2) := by decide +kernel
theorem dX7_rests_44 : decode cX7_rests 44 = .ok (.iload 6, 2) := by decide +kernel
theorem dX7_rests_46 : decode cX7_rests 46 = .ok (.bipush 9, 2) := by decide +kernel
theorem dX7_rests_48 : decode cX7_rests 48 = .ok (.if_icmp .ge 53, 3) := by decide +kernel
theorem dX7_rests_51 : decode cX7_rests 51 = .ok (.aload_n 0, 1) := by decide +kernel
theorem dX7_rests_52 : decode cX7_rests 52 = .ok (.iload_n 1, 1) := by decide +kernel
theorem dX7_rests_53 : decode cX7_rests 53 = .ok (.iload_n 2, 1) := by decide +kernel
theorem dX7_rests_54 : decode cX7_rests 54 = .ok (.iload 6, 2) := by decide +kernel
theorem dX7_rests_56 : decode cX7_rests 56 = .ok (.iconst 3, 1) := by decide +kernel
theorem dX7_rests_57 : decode cX7_rests 57 = .ok (.idiv, 1) := by decide +kernel
theorem dX7_rests_58 : decode cX7_rests 58 = .ok (.iload 6, 2) := by decide +kernel
theorem dX7_rests_60 : decode cX7_rests 60 = .ok (.iconst 3, 1) := by decide +kernel
theorem dX7_rests_61 : decode cX7_rests 61 = .ok (.irem, 1) := by decide +kernel
theorem dX7_rests_62 : decode cX7_rests 62 = .ok (.invokevirtual 212, 3) := by decide +kernel
theorem dX7_rests_65 : decode cX7_rests 65 = .ok (.ifCond .eq 30, 3) := by decide +kernel
theorem dX7_rests_68 : decode cX7_rests 68 = .ok (.iload 4, 2) := by decide +kernel
theorem dX7_rests_70 : decode cX7_rests 70 = .ok (.ifCond .ne 18, 3) := by decide +kernel
theorem dX7_rests_73 : decode cX7_rests 73 = .ok (.bipush 10, 2) := by decide +kernel
theorem dX7_rests_75 : decode cX7_rests 75 = .ok (.iload 6, 2) := by decide +kernel
theorem dX7_rests_77 : decode cX7_rests 77 = .ok (.iconst 3, 1) := by decide +kernel
theorem dX7_rests_78 : decode cX7_rests 78 = .ok (.idiv, 1) := by decide +kernel
theorem dX7_rests_79 : decode cX7_rests 79 = .ok (.imul, 1) := by decide +kernel
theorem dX7_rests_80 : decode cX7_rests 80 = .ok (.iload 6, 2) := by decide +kernel
theorem dX7_rests_82 : decode cX7_rests 82 = .ok (.iconst 3, 1) := by decide +kernel
theorem dX7_rests_83 : decode cX7_rests 83 = .ok (.irem, 1) := by decide +kernel
theorem dX7_rests_84 : decode cX7_rests 84 = .ok (.iadd, 1) := by decide +kernel
theorem dX7_rests_85 : decode cX7_rests 85 = .ok (.goto 5, 3) := by decide +kernel
theorem dX7_rests_88 : decode cX7_rests 88 = .ok (.iload 5, 2) := by decide +kernel
theorem dX7_rests_90 : decode cX7_rests 90 = .ok (.istore 5, 2) := by decide +kernel
theorem dX7_rests_92 : decode cX7_rests 92 = .ok (.iinc 4 1, 3) := by decide +kernel
theorem dX7_rests_95 : decode cX7_rests 95 = .ok (.iinc 6 1, 3) := by decide +kernel
theorem dX7_rests_98 : decode cX7_rests 98 = .ok (.goto (-54), 3) := by decide +kernel
theorem dX7_rests_101 : decode cX7_rests 101 = .ok (.iload_n 3, 1) := by decide +kernel
theorem dX7_rests_102 : decode cX7_rests 102 = .ok (.ifCond .ne 8, 3) := by decide +kernel
theorem dX7_rests_105 : decode cX7_rests 105 = .ok (.iload 4, 2) := by decide +kernel
theorem dX7_rests_107 : decode cX7_rests 107 = .ok (.goto 5, 3) := by decide +kernel
theorem dX7_rests_110 : decode cX7_rests 110 = .ok (.iload 5, 2) := by decide +kernel
theorem dX7_rests_112 : decode cX7_rests 112 = .ok (.ireturn, 1) := by decide +kernel
theorem dX7_power_0 : decode cX7_power 0 = .ok (.iconst 1, 1) := by decide +kernel
theorem dX7_power_1 : decode cX7_power 1 = .ok (.istore_n 2, 1) := by decide +kernel
theorem dX7_power_2 : decode cX7_power 2 = .ok (.iconst 0, 1) := by decide +kernel
theorem dX7_power_3 : decode cX7_power 3 = .ok (.istore_n 3, 1) := by decide +kernel
theorem dX7_power_4 : decode cX7_power 4 = .ok (.iload_n 3, 1) := by decide +kernel
theorem dX7_power_5 : decode cX7_power 5 = .ok (.iload_n 1, 1) := by decide +kernel
theorem dX7_power_6 : decode cX7_power 6 = .ok (.if_icmp .ge 13, 3) := by decide +kernel
theorem dX7_power_9 : decode cX7_power 9 = .ok (.iload_n 2, 1) := by decide +kernel
theorem dX7_power_10 : decode cX7_power 10 = .ok (.iload_n 0, 1) := by decide +kernel
theorem dX7_power_11 : decode cX7_power 11 = .ok (.imul, 1) := by decide +kernel
theorem dX7_power_12 : decode cX7_power 12 = .ok (.istore_n 2, 1) := by decide +kernel
theorem dX7_power_13 : decode cX7_power 13 = .ok (.iinc 3 1, 3) := by decide +kernel
theorem dX7_power_16 : decode cX7_power 16 = .ok (.goto (-12), 3) := by decide +kernel
theorem dX7_power_19 : decode cX7_power 19 = .ok (.iload_n 2, 1) := by decide +kernel
theorem dX7_power_20 : decode cX7_power 20 = .ok (.ireturn, 1) := by decide +kernel
theorem dX7_gives_0 : decode cX7_gives 0 = .ok (.iload_n 1, 1) := by decide +kernel
theorem dX7_gives_1 : decode cX7_gives 1 = .ok (.invokestatic 150, 3) := by decide +kernel
theorem dX7_gives_4 : decode cX7_gives 4 = .ok (.ifCond .eq 10, 3) := by decide +kernel
theorem dX7_gives_7 : decode cX7_gives 7 = .ok (.iload_n 2, 1) := by decide +kernel
theorem dX7_gives_8 : decode cX7_gives 8 = .ok (.invokestatic 150, 3) := by decide +kernel
theorem dX7_gives_11 : decode cX7_gives 11 = .ok (.ifCond .ne 5, 3) := by decide +kernel
theorem dX7_gives_14 : decode cX7_gives 14 = .ok (.iconst (-1), 1) := by decide +kernel
theorem dX7_gives_15 : decode cX7_gives 15 = .ok (.ireturn, 1) := by decide +kernel
theorem dX7_gives_16 : decode cX7_gives 16 = .ok (.iload_n 1, 1) := by decide +kernel
theorem dX7_gives_17 : decode cX7_gives 17 = .ok (.iload_n 2, 1) := by decide +kernel
theorem dX7_gives_18 : decode cX7_gives 18 = .ok (.if_icmp .eq 15, 3) := by decide +kernel
theorem dX7_gives_21 : decode cX7_gives 21 = .ok (.iload_n 3, 1) := by decide +kernel
theorem dX7_gives_22 : decode cX7_gives 22 = .ok (.i2l, 1) := by decide +kernel
theorem dX7_gives_23 : decode cX7_gives 23 = .ok (.lconst 0, 1) := by decide +kernel
theorem dX7_gives_24 : decode cX7_gives 24 = .ok (.ldc2_w 216, 3) := by decide +kernel
theorem dX7_gives_27 : decode cX7_gives 27 = .ok (.invokestatic 70, 3) := by decide +kernel
theorem dX7_gives_30 : decode cX7_gives 30 = .ok (.ifCond .ne 6, 3) := by decide +kernel
theorem dX7_gives_33 : decode cX7_gives 33 = .ok (.bipush (-2), 2) := by decide +kernel
theorem dX7_gives_35 : decode cX7_gives 35 = .ok (.ireturn, 1) := by decide +kernel
theorem dX7_gives_36 : decode cX7_gives 36 = .ok (.aload_n 0, 1) := by decide +kernel
theorem dX7_gives_37 : decode cX7_gives 37 = .ok (.invokevirtual 177, 3) := by decide +kernel
theorem dX7_gives_40 : decode cX7_gives 40 = .ok (.aload_n 0, 1) := by decide +kernel
theorem dX7_gives_41 : decode cX7_gives 41 = .ok (.getfield 34, 3) := by decide +kernel
theorem dX7_gives_44 : decode cX7_gives 44 = .ok (.iconst 0, 1) := by decide +kernel
theorem dX7_gives_45 : decode cX7_gives 45 = .ok (.iaload, 1) := by decide +kernel
theorem dX7_gives_46 : decode cX7_gives 46 = .ok (.iconst (-1), 1) := by decide +kernel
theorem dX7_gives_47 : decode cX7_gives 47 = .ok (.ixor, 1) := by decide +kernel
theorem dX7_gives_48 : decode cX7_gives 48 = .ok (.iand, 1) := by decide +kernel
theorem dX7_gives_49 : decode cX7_gives 49 = .ok (.istore 5, 2) := by decide +kernel
theorem dX7_gives_51 : decode cX7_gives 51 = .ok (.iconst 0, 1) := by decide +kernel
theorem dX7_gives_52 : decode cX7_gives 52 = .ok (.istore 6, 2) := by decide +kernel
theorem dX7_gives_54 : decode cX7_gives 54 = .ok (.iconst 0, 1) := by decide +kernel
theorem dX7_gives_55 : decode cX7_gives 55 = .ok (.istore 7, 2) := by decide +kernel
theorem dX7_gives_57 : decode cX7_gives 57 = .ok (.iconst 0, 1) := by decide +kernel
theorem dX7_gives_58 : decode cX7_gives 58 = .ok (.istore 8, 2) := by decide +kernel
theorem dX7_gives_60 : decode cX7_gives 60 = .ok (.iload 8, 2) := by decide +kernel
theorem dX7_gives_62 : decode cX7_gives 62 = .ok (.iconst 1, 1) := by decide +kernel
theorem dX7_gives_63 : decode cX7_gives 63 = .ok (.aload_n 0, 1) := by decide +kernel
theorem dX7_gives_64 : decode cX7_gives 64 = .ok (.getfield 105, 3) := by decide +kernel
theorem dX7_gives_67 : decode cX7_gives 67 = .ok (.ishl, 1) := by decide +kernel
theorem dX7_gives_68 : decode cX7_gives 68 = .ok (.if_icmp .ge 85, 3) := by decide +kernel
theorem dX7_gives_71 : decode cX7_gives 71 = .ok (.iload 8, 2) := by decide +kernel
theorem dX7_gives_73 : decode cX7_gives 73 = .ok (.iload 5, 2) := by decide +kernel
theorem dX7_gives_75 : decode cX7_gives 75 = .ok (.iconst (-1), 1) := by decide +kernel
theorem dX7_gives_76 : decode cX7_gives 76 = .ok (.ixor, 1) := by decide +kernel
theorem dX7_gives_77 : decode cX7_gives 77 = .ok (.iand, 1) := by decide +kernel
theorem dX7_gives_78 : decode cX7_gives 78 = .ok (.ifCond .ne 69, 3) := by decide +kernel
theorem dX7_gives_81 : decode cX7_gives 81 = .ok (.iload_n 3, 1) := by decide +kernel
theorem dX7_gives_82 : decode cX7_gives 82 = .ok (.iload 8, 2) := by decide +kernel
theorem dX7_gives_84 : decode cX7_gives 84 = .ok (.invokestatic 137, 3) := by decide +kernel
theorem dX7_gives_87 : decode cX7_gives 87 = .ok (.invokestatic 218, 3) := by decide +kernel
theorem dX7_gives_90 : decode cX7_gives 90 = .ok (.bipush 10, 2) := by decide +kernel
theorem dX7_gives_92 : decode cX7_gives 92 = .ok (.iload_n 3, 1) := by decide +kernel
theorem dX7_gives_93 : decode cX7_gives 93 = .ok (.isub, 1) := by decide +kernel
theorem dX7_gives_94 : decode cX7_gives 94 = .ok (.iload 5, 2) := by decide +kernel
theorem dX7_gives_96 : decode cX7_gives 96 = .ok (.invokestatic 137, 3) := by decide +kernel
theorem dX7_gives_99 : decode cX7_gives 99 = .ok (.iload 8, 2) := by decide +kernel
theorem dX7_gives_101 : decode cX7_gives 101 = .ok (.invokestatic 137, 3) := by decide +kernel
theorem dX7_gives_104 : decode cX7_gives 104 = .ok (.isub, 1) := by decide +kernel
theorem dX7_gives_105 : decode cX7_gives 105 = .ok (.invokestatic 218, 3) := by decide +kernel
theorem dX7_gives_108 : decode cX7_gives 108 = .ok (.imul, 1) := by decide +kernel
theorem dX7_gives_109 : decode cX7_gives 109 = .ok (.istore 9, 2) := by decide +kernel
theorem dX7_gives_111 : decode cX7_gives 111 = .ok (.iload 7, 2) := by decide +kernel
theorem dX7_gives_113 : decode cX7_gives 113 = .ok (.iload 9, 2) := by decide +kernel
theorem dX7_gives_115 : decode cX7_gives 115 = .ok (.iadd, 1) := by decide +kernel
theorem dX7_gives_116 : decode cX7_gives 116 = .ok (.istore 7, 2) := by decide +kernel
theorem dX7_gives_118 : decode cX7_gives 118 = .ok (.iload 6, 2) := by decide +kernel
theorem dX7_gives_120 : decode cX7_gives 120 = .ok (.aload_n 0, 1) := by decide +kernel
theorem dX7_gives_121 : decode cX7_gives 121 = .ok (.iload_n 1, 1) := by decide +kernel
theorem dX7_gives_122 : decode cX7_gives 122 = .ok (.iload_n 2, 1) := by decide +kernel
theorem dX7_gives_123 : decode cX7_gives 123 = .ok (.aload_n 0, 1) := by decide +kernel
theorem dX7_gives_124 : decode cX7_gives 124 = .ok (.getfield 34, 3) := by decide +kernel
theorem dX7_gives_127 : decode cX7_gives 127 = .ok (.iconst 0, 1) := by decide +kernel
theorem dX7_gives_128 : decode cX7_gives 128 = .ok (.iaload, 1) := by decide +kernel
theorem dX7_gives_129 : decode cX7_gives 129 = .ok (.iload 8, 2) := by decide +kernel
theorem dX7_gives_131 : decode cX7_gives 131 = .ok (.ior, 1) := by decide +kernel
theorem dX7_gives_132 : decode cX7_gives 132 = .ok (.invokevirtual 126, 3) := by decide +kernel
theorem dX7_gives_135 : decode cX7_gives 135 = .ok (.ifCond .eq 8, 3) := by decide +kernel
theorem dX7_gives_138 : decode cX7_gives 138 = .ok (.iload 9, 2) := by decide +kernel
theorem dX7_gives_140 : decode cX7_gives 140 = .ok (.goto 4, 3) := by decide +kernel
theorem dX7_gives_143 : decode cX7_gives 143 = .ok (.iconst 0, 1) := by decide +kernel
theorem dX7_gives_144 : decode cX7_gives 144 = .ok (.iadd, 1) := by decide +kernel
theorem dX7_gives_145 : decode cX7_gives 145 = .ok (.istore 6, 2) := by decide +kernel
theorem dX7_gives_147 : decode cX7_gives 147 = .ok (.iinc 8 1, 3) := by decide +kernel
theorem dX7_gives_150 : decode cX7_gives 150 = .ok (.goto (-90), 3) := by decide +kernel
theorem dX7_gives_153 : decode cX7_gives 153 = .ok (.iload 6, 2) := by decide +kernel
theorem dX7_gives_155 : decode cX7_gives 155 = .ok (.iload 7, 2) := by decide +kernel
theorem dX7_gives_157 : decode cX7_gives 157 = .ok (.invokestatic 205, 3) := by decide +kernel
theorem dX7_gives_160 : decode cX7_gives 160 = .ok (.istore 8, 2) := by decide +kernel
theorem dX7_gives_162 : decode cX7_gives 162 = .ok (.iload 4, 2) := by decide +kernel
theorem dX7_gives_164 : decode cX7_gives 164 = .ok (.ifCond .eq 11, 3) := by decide +kernel
theorem dX7_gives_167 : decode cX7_gives 167 = .ok (.iload 6, 2) := by decide +kernel
theorem dX7_gives_169 : decode cX7_gives 169 = .ok (.iload 8, 2) := by decide +kernel
theorem dX7_gives_171 : decode cX7_gives 171 = .ok (.idiv, 1) := by decide +kernel
theorem dX7_gives_172 : decode cX7_gives 172 = .ok (.goto 8, 3) := by decide +kernel
theorem dX7_gives_175 : decode cX7_gives 175 = .ok (.iload 7, 2) := by decide +kernel
theorem dX7_gives_177 : decode cX7_gives 177 = .ok (.iload 8, 2) := by decide +kernel
theorem dX7_gives_179 : decode cX7_gives 179 = .ok (.idiv, 1) := by decide +kernel
theorem dX7_gives_180 : decode cX7_gives 180 = .ok (.ireturn, 1) := by decide +kernel
theorem dX7_seed_0 : decode cX7_seed 0 = .ok (.aload_n 0, 1) := by decide +kernel
theorem dX7_seed_1 : decode cX7_seed 1 = .ok (.getfield 221, 3) := by decide +kernel
theorem dX7_seed_4 : decode cX7_seed 4 = .ok (.lstore_n 3, 1) := by decide +kernel
theorem dX7_seed_5 : decode cX7_seed 5 = .ok (.aload_n 0, 1) := by decide +kernel
theorem dX7_seed_6 : decode cX7_seed 6 = .ok (.lload_n 1, 1) := by decide +kernel
theorem dX7_seed_7 : decode cX7_seed 7 = .ok (.putfield 221, 3) := by decide +kernel
theorem dX7_seed_10 : decode cX7_seed 10 = .ok (.lload_n 3, 1) := by decide +kernel
theorem dX7_seed_11 : decode cX7_seed 11 = .ok (.lreturn, 1) := by decide +kernel
theorem dX7_seasons_0 : decode cX7_seasons 0 = .ok (.iload_n 1, 1) := by decide +kernel
theorem dX7_seasons_1 : decode cX7_seasons 1 = .ok (.i2l, 1) := by decide +kernel
theorem dX7_seasons_2 : decode cX7_seasons 2 = .ok (.lconst 1, 1) := by decide +kernel
theorem dX7_seasons_3 : decode cX7_seasons 3 = .ok (.ldc2_w 225, 3) := by decide +kernel
theorem dX7_seasons_6 : decode cX7_seasons 6 = .ok (.invokestatic 70, 3) := by decide +kernel
theorem dX7_seasons_9 : decode cX7_seasons 9 = .ok (.ifCond .ne 6, 3) := by decide +kernel
theorem dX7_seasons_12 : decode cX7_seasons 12 = .ok (.bipush (-2), 2) := by decide +kernel
theorem dX7_seasons_14 : decode cX7_seasons 14 = .ok (.ireturn, 1) := by decide +kernel
theorem dX7_seasons_15 : decode cX7_seasons 15 = .ok (.aload_n 0, 1) := by decide +kernel
theorem dX7_seasons_16 : decode cX7_seasons 16 = .ok (.invokevirtual 174, 3) := by decide +kernel
theorem dX7_seasons_19 : decode cX7_seasons 19 = .ok (.iconst 0, 1) := by decide +kernel
theorem dX7_seasons_20 : decode cX7_seasons 20 = .ok (.istore_n 2, 1) := by decide +kernel
theorem dX7_seasons_21 : decode cX7_seasons 21 = .ok (.iconst 0, 1) := by decide +kernel
theorem dX7_seasons_22 : decode cX7_seasons 22 = .ok (.istore_n 3, 1) := by decide +kernel
theorem dX7_seasons_23 : decode cX7_seasons 23 = .ok (.iload_n 3, 1) := by decide +kernel
theorem dX7_seasons_24 : decode cX7_seasons 24 = .ok (.iload_n 1, 1) := by decide +kernel
theorem dX7_seasons_25 : decode cX7_seasons 25 = .ok (.if_icmp .ge 120, 3) := by decide +kernel
theorem dX7_seasons_28 : decode cX7_seasons 28 = .ok (.aload_n 0, 1) := by decide +kernel
theorem dX7_seasons_29 : decode cX7_seasons 29 = .ok (.aload_n 0, 1) := by decide +kernel
theorem dX7_seasons_30 : decode cX7_seasons 30 = .ok (.getfield 221, 3) := by decide +kernel
theorem dX7_seasons_33 : decode cX7_seasons 33 = .ok (.ldc2_w 227, 3) := by decide +kernel
theorem dX7_seasons_36 : decode cX7_seasons 36 = .ok (.lmul, 1) := by decide +kernel
theorem dX7_seasons_37 : decode cX7_seasons 37 = .ok (.ldc2_w 229, 3) := by decide +kernel
theorem dX7_seasons_40 : decode cX7_seasons 40 = .ok (.ladd, 1) := by decide +kernel
theorem dX7_seasons_41 : decode cX7_seasons 41 = .ok (.putfield 221, 3) := by decide +kernel
theorem dX7_seasons_44 : decode cX7_seasons 44 = .ok (.aload_n 0, 1) := by decide +kernel
theorem dX7_seasons_45 : decode cX7_seasons 45 = .ok (.getfield 221, 3) := by decide +kernel
theorem dX7_seasons_48 : decode cX7_seasons 48 = .ok (.bipush 33, 2) := by decide +kernel
theorem dX7_seasons_50 : decode cX7_seasons 50 = .ok (.lushr, 1) := by decide +kernel
theorem dX7_seasons_51 : decode cX7_seasons 51 = .ok (.ldc2_w 231, 3) := by decide +kernel
theorem dX7_seasons_54 : decode cX7_seasons 54 = .ok (.lrem, 1) := by decide +kernel
theorem dX7_seasons_55 : decode cX7_seasons 55 = .ok (.l2i, 1) := by decide +kernel
theorem dX7_seasons_56 : decode cX7_seasons 56 = .ok (.istore 4, 2) := by decide +kernel
theorem dX7_seasons_58 : decode cX7_seasons 58 = .ok (.iload 4, 2) := by decide +kernel
theorem dX7_seasons_60 : decode cX7_seasons 60 = .ok (.bipush 19, 2) := by decide +kernel
theorem dX7_seasons_62 : decode cX7_seasons 62 = .ok (.if_icmp .le 12, 3) := by decide +kernel
theorem dX7_seasons_65 : decode cX7_seasons 65 = .ok (.aload_n 0, 1) := by decide +kernel
theorem dX7_seasons_66 : decode cX7_seasons 66 = .ok (.iconst 1, 1) := by decide +kernel
theorem dX7_seasons_67 : decode cX7_seasons 67 = .ok (.invokevirtual 159, 3) := by decide +kernel
theorem dX7_seasons_70 : decode cX7_seasons 70 = .ok (.pop, 1) := by decide +kernel
theorem dX7_seasons_71 : decode cX7_seasons 71 = .ok (.goto 55, 3) := by decide +kernel
theorem dX7_seasons_74 : decode cX7_seasons 74 = .ok (.iload 4, 2) := by decide +kernel
theorem dX7_seasons_76 : decode cX7_seasons 76 = .ok (.bipush 12, 2) := by decide +kernel
theorem dX7_seasons_78 : decode cX7_seasons 78 = .ok (.if_icmp .le 18, 3) := by decide +kernel
theorem dX7_seasons_81 : decode cX7_seasons 81 = .ok (.aload_n 0, 1) := by decide +kernel
theorem dX7_seasons_82 : decode cX7_seasons 82 = .ok (.iconst 3, 1) := by decide +kernel
theorem dX7_seasons_83 : decode cX7_seasons 83 = .ok (.iconst 0, 1) := by decide +kernel
theorem dX7_seasons_84 : decode cX7_seasons 84 = .ok (.iload 4, 2) := by decide +kernel
theorem dX7_seasons_86 : decode cX7_seasons 86 = .ok (.bipush 13, 2) := by decide +kernel
theorem dX7_seasons_88 : decode cX7_seasons 88 = .ok (.isub, 1) := by decide +kernel
theorem dX7_seasons_89 : decode cX7_seasons 89 = .ok (.invokevirtual 191, 3) := by decide +kernel
theorem dX7_seasons_92 : decode cX7_seasons 92 = .ok (.pop, 1) := by decide +kernel
theorem dX7_seasons_93 : decode cX7_seasons 93 = .ok (.goto 33, 3) := by decide +kernel
theorem dX7_seasons_96 : decode cX7_seasons 96 = .ok (.iload 4, 2) := by decide +kernel
theorem dX7_seasons_98 : decode cX7_seasons 98 = .ok (.iconst 5, 1) := by decide +kernel
theorem dX7_seasons_99 : decode cX7_seasons 99 = .ok (.if_icmp .le 18, 3) := by decide +kernel
theorem dX7_seasons_102 : decode cX7_seasons 102 = .ok (.aload_n 0, 1) := by decide +kernel
theorem dX7_seasons_103 : decode cX7_seasons 103 = .ok (.iconst 2, 1) := by decide +kernel
theorem dX7_seasons_104 : decode cX7_seasons 104 = .ok (.iconst 0, 1) := by decide +kernel
theorem dX7_seasons_105 : decode cX7_seasons 105 = .ok (.iload 4, 2) := by decide +kernel
theorem dX7_seasons_107 : decode cX7_seasons 107 = .ok (.bipush 6, 2) := by decide +kernel
theorem dX7_seasons_109 : decode cX7_seasons 109 = .ok (.isub, 1) := by decide +kernel
theorem dX7_seasons_110 : decode cX7_seasons 110 = .ok (.invokevirtual 191, 3) := by decide +kernel
theorem dX7_seasons_113 : decode cX7_seasons 113 = .ok (.pop, 1) := by decide +kernel
theorem dX7_seasons_114 : decode cX7_seasons 114 = .ok (.goto 12, 3) := by decide +kernel
theorem dX7_seasons_117 : decode cX7_seasons 117 = .ok (.aload_n 0, 1) := by decide +kernel
theorem dX7_seasons_118 : decode cX7_seasons 118 = .ok (.iconst 1, 1) := by decide +kernel
theorem dX7_seasons_119 : decode cX7_seasons 119 = .ok (.iload 4, 2) := by decide +kernel
theorem dX7_seasons_121 : decode cX7_seasons 121 = .ok (.iconst 4, 1) := by decide +kernel
theorem dX7_seasons_122 : decode cX7_seasons 122 = .ok (.invokevirtual 164, 3) := by decide +kernel
theorem dX7_seasons_125 : decode cX7_seasons 125 = .ok (.pop, 1) := by decide +kernel
theorem dX7_seasons_126 : decode cX7_seasons 126 = .ok (.iload_n 2, 1) := by decide +kernel
theorem dX7_seasons_127 : decode cX7_seasons 127 = .ok (.aload_n 0, 1) := by decide +kernel
theorem dX7_seasons_128 : decode cX7_seasons 128 = .ok (.getfield 34, 3) := by decide +kernel
theorem dX7_seasons_131 : decode cX7_seasons 131 = .ok (.bipush 9, 2) := by decide +kernel
theorem dX7_seasons_133 : decode cX7_seasons 133 = .ok (.iaload, 1) := by decide +kernel
theorem dX7_seasons_134 : decode cX7_seasons 134 = .ok (.invokestatic 137, 3) := by decide +kernel
theorem dX7_seasons_137 : decode cX7_seasons 137 = .ok (.iadd, 1) := by decide +kernel
theorem dX7_seasons_138 : decode cX7_seasons 138 = .ok (.istore_n 2, 1) := by decide +kernel
theorem dX7_seasons_139 : decode cX7_seasons 139 = .ok (.iinc 3 1, 3) := by decide +kernel
theorem dX7_seasons_142 : decode cX7_seasons 142 = .ok (.goto (-119), 3) := by decide +kernel
theorem dX7_seasons_145 : decode cX7_seasons 145 = .ok (.iload_n 2, 1) := by decide +kernel
theorem dX7_seasons_146 : decode cX7_seasons 146 = .ok (.ireturn, 1) := by decide +kernel
theorem dX7_keep_0 : decode cX7_keep 0 = .ok (.iload_n 1, 1) := by decide +kernel
theorem dX7_keep_1 : decode cX7_keep 1 = .ok (.i2l, 1) := by decide +kernel
theorem dX7_keep_2 : decode cX7_keep 2 = .ok (.lconst 0, 1) := by decide +kernel
theorem dX7_keep_3 : decode cX7_keep 3 = .ok (.lconst 1, 1) := by decide +kernel
theorem dX7_keep_4 : decode cX7_keep 4 = .ok (.invokestatic 70, 3) := by decide +kernel
theorem dX7_keep_7 : decode cX7_keep 7 = .ok (.ifCond .ne 5, 3) := by decide +kernel
theorem dX7_keep_10 : decode cX7_keep 10 = .ok (.iconst (-1), 1) := by decide +kernel
theorem dX7_keep_11 : decode cX7_keep 11 = .ok (.ireturn, 1) := by decide +kernel
theorem dX7_keep_12 : decode cX7_keep 12 = .ok (.aload_n 0, 1) := by decide +kernel
theorem dX7_keep_13 : decode cX7_keep 13 = .ok (.getfield 61, 3) := by decide +kernel
theorem dX7_keep_16 : decode cX7_keep 16 = .ok (.iload_n 1, 1) := by decide +kernel
theorem dX7_keep_17 : decode cX7_keep 17 = .ok (.iconst 1, 1) := by decide +kernel
theorem dX7_keep_18 : decode cX7_keep 18 = .ok (.bastore, 1) := by decide +kernel
theorem dX7_keep_19 : decode cX7_keep 19 = .ok (.iconst 0, 1) := by decide +kernel
theorem dX7_keep_20 : decode cX7_keep 20 = .ok (.istore_n 2, 1) := by decide +kernel
theorem dX7_keep_21 : decode cX7_keep 21 = .ok (.iload_n 2, 1) := by decide +kernel
theorem dX7_keep_22 : decode cX7_keep 22 = .ok (.bipush 9, 2) := by decide +kernel
theorem dX7_keep_24 : decode cX7_keep 24 = .ok (.if_icmp .ge 26, 3) := by decide +kernel
theorem dX7_keep_27 : decode cX7_keep 27 = .ok (.aload_n 0, 1) := by decide +kernel
theorem dX7_keep_28 : decode cX7_keep 28 = .ok (.getfield 65, 3) := by decide +kernel
theorem dX7_keep_31 : decode cX7_keep 31 = .ok (.bipush 9, 2) := by decide +kernel
theorem dX7_keep_33 : decode cX7_keep 33 = .ok (.iload_n 1, 1) := by decide +kernel
theorem dX7_keep_34 : decode cX7_keep 34 = .ok (.imul, 1) := by decide +kernel
theorem dX7_keep_35 : decode cX7_keep 35 = .ok (.iload_n 2, 1) := by decide +kernel
theorem dX7_keep_36 : decode cX7_keep 36 = .ok (.iadd, 1) := by decide +kernel
theorem dX7_keep_37 : decode cX7_keep 37 = .ok (.aload_n 0, 1) := by decide +kernel
theorem dX7_keep_38 : decode cX7_keep 38 = .ok (.getfield 34, 3) := by decide +kernel
theorem dX7_keep_41 : decode cX7_keep 41 = .ok (.iload_n 2, 1) := by decide +kernel
theorem dX7_keep_42 : decode cX7_keep 42 = .ok (.iaload, 1) := by decide +kernel
theorem dX7_keep_43 : decode cX7_keep 43 = .ok (.iastore, 1) := by decide +kernel
theorem dX7_keep_44 : decode cX7_keep 44 = .ok (.iinc 2 1, 3) := by decide +kernel
theorem dX7_keep_47 : decode cX7_keep 47 = .ok (.goto (-26), 3) := by decide +kernel
theorem dX7_keep_50 : decode cX7_keep 50 = .ok (.aload_n 0, 1) := by decide +kernel
theorem dX7_keep_51 : decode cX7_keep 51 = .ok (.getfield 34, 3) := by decide +kernel
theorem dX7_keep_54 : decode cX7_keep 54 = .ok (.bipush 8, 2) := by decide +kernel
theorem dX7_keep_56 : decode cX7_keep 56 = .ok (.iaload, 1) := by decide +kernel
theorem dX7_keep_57 : decode cX7_keep 57 = .ok (.ireturn, 1) := by decide +kernel
theorem dX7_again_0 : decode cX7_again 0 = .ok (.iload_n 1, 1) := by decide +kernel
theorem dX7_again_1 : decode cX7_again 1 = .ok (.i2l, 1) := by decide +kernel
theorem dX7_again_2 : decode cX7_again 2 = .ok (.lconst 0, 1) := by decide +kernel
theorem dX7_again_3 : decode cX7_again 3 = .ok (.lconst 1, 1) := by decide +kernel
theorem dX7_again_4 : decode cX7_again 4 = .ok (.invokestatic 70, 3) := by decide +kernel
theorem dX7_again_7 : decode cX7_again 7 = .ok (.ifCond .ne 5, 3) := by decide +kernel
theorem dX7_again_10 : decode cX7_again 10 = .ok (.iconst (-1), 1) := by decide +kernel
theorem dX7_again_11 : decode cX7_again 11 = .ok (.ireturn, 1) := by decide +kernel
theorem dX7_again_12 : decode cX7_again 12 = .ok (.aload_n 0, 1) := by decide +kernel
theorem dX7_again_13 : decode cX7_again 13 = .ok (.getfield 61, 3) := by decide +kernel
theorem dX7_again_16 : decode cX7_again 16 = .ok (.iload_n 1, 1) := by decide +kernel
theorem dX7_again_17 : decode cX7_again 17 = .ok (.baload, 1) := by decide +kernel
theorem dX7_again_18 : decode cX7_again 18 = .ok (.ifCond .ne 6, 3) := by decide +kernel
theorem dX7_again_21 : decode cX7_again 21 = .ok (.bipush (-3), 2) := by decide +kernel
theorem dX7_again_23 : decode cX7_again 23 = .ok (.ireturn, 1) := by decide +kernel
theorem dX7_again_24 : decode cX7_again 24 = .ok (.iconst 0, 1) := by decide +kernel
theorem dX7_again_25 : decode cX7_again 25 = .ok (.istore_n 2, 1) := by decide +kernel
theorem dX7_again_26 : decode cX7_again 26 = .ok (.iload_n 2, 1) := by decide +kernel
theorem dX7_again_27 : decode cX7_again 27 = .ok (.bipush 9, 2) := by decide +kernel
theorem dX7_again_29 : decode cX7_again 29 = .ok (.if_icmp .ge 26, 3) := by decide +kernel
theorem dX7_again_32 : decode cX7_again 32 = .ok (.aload_n 0, 1) := by decide +kernel
theorem dX7_again_33 : decode cX7_again 33 = .ok (.getfield 34, 3) := by decide +kernel
theorem dX7_again_36 : decode cX7_again 36 = .ok (.iload_n 2, 1) := by decide +kernel
theorem dX7_again_37 : decode cX7_again 37 = .ok (.aload_n 0, 1) := by decide +kernel
theorem dX7_again_38 : decode cX7_again 38 = .ok (.getfield 65, 3) := by decide +kernel
theorem dX7_again_41 : decode cX7_again 41 = .ok (.bipush 9, 2) := by decide +kernel
theorem dX7_again_43 : decode cX7_again 43 = .ok (.iload_n 1, 1) := by decide +kernel
theorem dX7_again_44 : decode cX7_again 44 = .ok (.imul, 1) := by decide +kernel
theorem dX7_again_45 : decode cX7_again 45 = .ok (.iload_n 2, 1) := by decide +kernel
theorem dX7_again_46 : decode cX7_again 46 = .ok (.iadd, 1) := by decide +kernel
theorem dX7_again_47 : decode cX7_again 47 = .ok (.iaload, 1) := by decide +kernel
theorem dX7_again_48 : decode cX7_again 48 = .ok (.iastore, 1) := by decide +kernel
theorem dX7_again_49 : decode cX7_again 49 = .ok (.iinc 2 1, 3) := by decide +kernel
theorem dX7_again_52 : decode cX7_again 52 = .ok (.goto (-26), 3) := by decide +kernel
theorem dX7_again_55 : decode cX7_again 55 = .ok (.aload_n 0, 1) := by decide +kernel
theorem dX7_again_56 : decode cX7_again 56 = .ok (.iconst 0, 1) := by decide +kernel
theorem dX7_again_57 : decode cX7_again 57 = .ok (.putfield 114, 3) := by decide +kernel
theorem dX7_again_60 : decode cX7_again 60 = .ok (.aload_n 0, 1) := by decide +kernel
theorem dX7_again_61 : decode cX7_again 61 = .ok (.getfield 34, 3) := by decide +kernel
theorem dX7_again_64 : decode cX7_again 64 = .ok (.bipush 8, 2) := by decide +kernel
theorem dX7_again_66 : decode cX7_again 66 = .ok (.iaload, 1) := by decide +kernel
theorem dX7_again_67 : decode cX7_again 67 = .ok (.ireturn, 1) := by decide +kernel
theorem dX7_wearOfAll_0 : decode cX7_wearOfAll 0 = .ok (.iconst 0, 1) := by decide +kernel
theorem dX7_wearOfAll_1 : decode cX7_wearOfAll 1 = .ok (.istore_n 1, 1) := by decide +kernel
theorem dX7_wearOfAll_2 : decode cX7_wearOfAll 2 = .ok (.iconst 0, 1) := by decide +kernel
theorem dX7_wearOfAll_3 : decode cX7_wearOfAll 3 = .ok (.istore_n 2, 1) := by decide +kernel
theorem dX7_wearOfAll_4 : decode cX7_wearOfAll 4 = .ok (.iload_n 2, 1) := by decide +kernel
theorem dX7_wearOfAll_5 : decode cX7_wearOfAll 5 = .ok (.aload_n 0, 1) := by decide +kernel
theorem dX7_wearOfAll_6 : decode cX7_wearOfAll 6 = .ok (.getfield 105, 3) := by decide +kernel
theorem dX7_wearOfAll_9 : decode cX7_wearOfAll 9 = .ok (.if_icmp .ge 20, 3) := by decide +kernel
theorem dX7_wearOfAll_12 : decode cX7_wearOfAll 12 = .ok (.iload_n 1, 1) := by decide +kernel
theorem dX7_wearOfAll_13 : decode cX7_wearOfAll 13 = .ok (.aload_n 0, 1) := by decide +kernel
theorem dX7_wearOfAll_14 : decode cX7_wearOfAll 14 = .ok (.getfield 34, 3) := by decide +kernel
theorem dX7_wearOfAll_17 : decode cX7_wearOfAll 17 = .ok (.iconst 1, 1) := by decide +kernel
theorem dX7_wearOfAll_18 : decode cX7_wearOfAll 18 = .ok (.iload_n 2, 1) := by decide +kernel
theorem dX7_wearOfAll_19 : decode cX7_wearOfAll 19 = .ok (.iadd, 1) := by decide +kernel
theorem dX7_wearOfAll_20 : decode cX7_wearOfAll 20 = .ok (.iaload, 1) := by decide +kernel
theorem dX7_wearOfAll_21 : decode cX7_wearOfAll 21 = .ok (.iadd, 1) := by decide +kernel
theorem dX7_wearOfAll_22 : decode cX7_wearOfAll 22 = .ok (.istore_n 1, 1) := by decide +kernel
theorem dX7_wearOfAll_23 : decode cX7_wearOfAll 23 = .ok (.iinc 2 1, 3) := by decide +kernel
theorem dX7_wearOfAll_26 : decode cX7_wearOfAll 26 = .ok (.goto (-22), 3) := by decide +kernel
theorem dX7_wearOfAll_29 : decode cX7_wearOfAll 29 = .ok (.iload_n 1, 1) := by decide +kernel
theorem dX7_wearOfAll_30 : decode cX7_wearOfAll 30 = .ok (.ireturn, 1) := by decide +kernel
theorem dX7_count_0 : decode cX7_count 0 = .ok (.iload_n 1, 1) := by decide +kernel
theorem dX7_count_1 : decode cX7_count 1 = .ok (.tableswitch 131 0 10 #[59, 64, 69, 74, 79, 87, 94, 105, 116, 121, 126], 59) := by decide +kernel
theorem dX7_count_60 : decode cX7_count 60 = .ok (.aload_n 0, 1) := by decide +kernel
theorem dX7_count_61 : decode cX7_count 61 = .ok (.getfield 74, 3) := by decide +kernel
theorem dX7_count_64 : decode cX7_count 64 = .ok (.ireturn, 1) := by decide +kernel
theorem dX7_count_65 : decode cX7_count 65 = .ok (.aload_n 0, 1) := by decide +kernel
theorem dX7_count_66 : decode cX7_count 66 = .ok (.getfield 105, 3) := by decide +kernel
theorem dX7_count_69 : decode cX7_count 69 = .ok (.ireturn, 1) := by decide +kernel
theorem dX7_count_70 : decode cX7_count 70 = .ok (.aload_n 0, 1) := by decide +kernel
theorem dX7_count_71 : decode cX7_count 71 = .ok (.getfield 108, 3) := by decide +kernel
theorem dX7_count_74 : decode cX7_count 74 = .ok (.ireturn, 1) := by decide +kernel
theorem dX7_count_75 : decode cX7_count 75 = .ok (.aload_n 0, 1) := by decide +kernel
theorem dX7_count_76 : decode cX7_count 76 = .ok (.getfield 111, 3) := by decide +kernel
theorem dX7_count_79 : decode cX7_count 79 = .ok (.ireturn, 1) := by decide +kernel
theorem dX7_count_80 : decode cX7_count 80 = .ok (.aload_n 0, 1) := by decide +kernel
theorem dX7_count_81 : decode cX7_count 81 = .ok (.getfield 34, 3) := by decide +kernel
theorem dX7_count_84 : decode cX7_count 84 = .ok (.bipush 8, 2) := by decide +kernel
theorem dX7_count_86 : decode cX7_count 86 = .ok (.iaload, 1) := by decide +kernel
theorem dX7_count_87 : decode cX7_count 87 = .ok (.ireturn, 1) := by decide +kernel
theorem dX7_count_88 : decode cX7_count 88 = .ok (.aload_n 0, 1) := by decide +kernel
theorem dX7_count_89 : decode cX7_count 89 = .ok (.getfield 34, 3) := by decide +kernel
theorem dX7_count_92 : decode cX7_count 92 = .ok (.iconst 0, 1) := by decide +kernel
theorem dX7_count_93 : decode cX7_count 93 = .ok (.iaload, 1) := by decide +kernel
theorem dX7_count_94 : decode cX7_count 94 = .ok (.ireturn, 1) := by decide +kernel
theorem dX7_count_95 : decode cX7_count 95 = .ok (.aload_n 0, 1) := by decide +kernel
theorem dX7_count_96 : decode cX7_count 96 = .ok (.aload_n 0, 1) := by decide +kernel
theorem dX7_count_97 : decode cX7_count 97 = .ok (.getfield 34, 3) := by decide +kernel
theorem dX7_count_100 : decode cX7_count 100 = .ok (.iconst 0, 1) := by decide +kernel
theorem dX7_count_101 : decode cX7_count 101 = .ok (.iaload, 1) := by decide +kernel
theorem dX7_count_102 : decode cX7_count 102 = .ok (.invokevirtual 180, 3) := by decide +kernel
theorem dX7_count_105 : decode cX7_count 105 = .ok (.ireturn, 1) := by decide +kernel
theorem dX7_count_106 : decode cX7_count 106 = .ok (.aload_n 0, 1) := by decide +kernel
theorem dX7_count_107 : decode cX7_count 107 = .ok (.aload_n 0, 1) := by decide +kernel
theorem dX7_count_108 : decode cX7_count 108 = .ok (.getfield 34, 3) := by decide +kernel
theorem dX7_count_111 : decode cX7_count 111 = .ok (.iconst 0, 1) := by decide +kernel
theorem dX7_count_112 : decode cX7_count 112 = .ok (.iaload, 1) := by decide +kernel
theorem dX7_count_113 : decode cX7_count 113 = .ok (.invokevirtual 202, 3) := by decide +kernel
theorem dX7_count_116 : decode cX7_count 116 = .ok (.ireturn, 1) := by decide +kernel
theorem dX7_count_117 : decode cX7_count 117 = .ok (.aload_n 0, 1) := by decide +kernel
theorem dX7_count_118 : decode cX7_count 118 = .ok (.invokevirtual 233, 3) := by decide +kernel
theorem dX7_count_121 : decode cX7_count 121 = .ok (.ireturn, 1) := by decide +kernel
theorem dX7_count_122 : decode cX7_count 122 = .ok (.aload_n 0, 1) := by decide +kernel
theorem dX7_count_123 : decode cX7_count 123 = .ok (.getfield 114, 3) := by decide +kernel
theorem dX7_count_126 : decode cX7_count 126 = .ok (.ireturn, 1) := by decide +kernel
theorem dX7_count_127 : decode cX7_count 127 = .ok (.aload_n 0, 1) := by decide +kernel
theorem dX7_count_128 : decode cX7_count 128 = .ok (.getfield 196, 3) := by decide +kernel
theorem dX7_count_131 : decode cX7_count 131 = .ok (.ireturn, 1) := by decide +kernel
theorem dX7_count_132 : decode cX7_count 132 = .ok (.bipush (-2), 2) := by decide +kernel
theorem dX7_count_134 : decode cX7_count 134 = .ok (.ireturn, 1) := by decide +kernel
