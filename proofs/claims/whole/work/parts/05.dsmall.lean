theorem dX0_forget_0 : decode cX0_forget 0 = .ok (.aload_n 0, 1) := by decide +kernel
theorem dX0_forget_1 : decode cX0_forget 1 = .ok (.iconst 0, 1) := by decide +kernel
theorem dX0_forget_2 : decode cX0_forget 2 = .ok (.putfield 21, 3) := by decide +kernel
theorem dX0_forget_5 : decode cX0_forget 5 = .ok (.return_, 1) := by decide +kernel
theorem dX0_remember_0 : decode cX0_remember 0 = .ok (.aload_n 0, 1) := by decide +kernel
theorem dX0_remember_1 : decode cX0_remember 1 = .ok (.getfield 11, 3) := by decide +kernel
theorem dX0_remember_4 : decode cX0_remember 4 = .ok (.aload_n 0, 1) := by decide +kernel
theorem dX0_remember_5 : decode cX0_remember 5 = .ok (.getfield 17, 3) := by decide +kernel
theorem dX0_remember_8 : decode cX0_remember 8 = .ok (.aaload, 1) := by decide +kernel
theorem dX0_remember_9 : decode cX0_remember 9 = .ok (.aload_n 1, 1) := by decide +kernel
theorem dX0_remember_10 : decode cX0_remember 10 = .ok (.invokevirtual 25, 3) := by decide +kernel
theorem dX0_remember_13 : decode cX0_remember 13 = .ok (.aload_n 0, 1) := by decide +kernel
theorem dX0_remember_14 : decode cX0_remember 14 = .ok (.aload_n 0, 1) := by decide +kernel
theorem dX0_remember_15 : decode cX0_remember 15 = .ok (.getfield 17, 3) := by decide +kernel
theorem dX0_remember_18 : decode cX0_remember 18 = .ok (.iconst 1, 1) := by decide +kernel
theorem dX0_remember_19 : decode cX0_remember 19 = .ok (.iadd, 1) := by decide +kernel
theorem dX0_remember_20 : decode cX0_remember 20 = .ok (.bipush 14, 2) := by decide +kernel
theorem dX0_remember_22 : decode cX0_remember 22 = .ok (.irem, 1) := by decide +kernel
theorem dX0_remember_23 : decode cX0_remember 23 = .ok (.putfield 17, 3) := by decide +kernel
theorem dX0_remember_26 : decode cX0_remember 26 = .ok (.aload_n 0, 1) := by decide +kernel
theorem dX0_remember_27 : decode cX0_remember 27 = .ok (.bipush 14, 2) := by decide +kernel
theorem dX0_remember_29 : decode cX0_remember 29 = .ok (.aload_n 0, 1) := by decide +kernel
theorem dX0_remember_30 : decode cX0_remember 30 = .ok (.getfield 21, 3) := by decide +kernel
theorem dX0_remember_33 : decode cX0_remember 33 = .ok (.iconst 1, 1) := by decide +kernel
theorem dX0_remember_34 : decode cX0_remember 34 = .ok (.iadd, 1) := by decide +kernel
theorem dX0_remember_35 : decode cX0_remember 35 = .ok (.invokestatic 29, 3) := by decide +kernel
theorem dX0_remember_38 : decode cX0_remember 38 = .ok (.putfield 21, 3) := by decide +kernel
theorem dX0_remember_41 : decode cX0_remember 41 = .ok (.return_, 1) := by decide +kernel
theorem dX0_takeBack_0 : decode cX0_takeBack 0 = .ok (.aload_n 0, 1) := by decide +kernel
theorem dX0_takeBack_1 : decode cX0_takeBack 1 = .ok (.getfield 21, 3) := by decide +kernel
theorem dX0_takeBack_4 : decode cX0_takeBack 4 = .ok (.ifCond .le 42, 3) := by decide +kernel
theorem dX0_takeBack_7 : decode cX0_takeBack 7 = .ok (.aload_n 0, 1) := by decide +kernel
theorem dX0_takeBack_8 : decode cX0_takeBack 8 = .ok (.aload_n 0, 1) := by decide +kernel
theorem dX0_takeBack_9 : decode cX0_takeBack 9 = .ok (.getfield 17, 3) := by decide +kernel
theorem dX0_takeBack_12 : decode cX0_takeBack 12 = .ok (.bipush 14, 2) := by decide +kernel
theorem dX0_takeBack_14 : decode cX0_takeBack 14 = .ok (.iadd, 1) := by decide +kernel
theorem dX0_takeBack_15 : decode cX0_takeBack 15 = .ok (.iconst 1, 1) := by decide +kernel
theorem dX0_takeBack_16 : decode cX0_takeBack 16 = .ok (.isub, 1) := by decide +kernel
theorem dX0_takeBack_17 : decode cX0_takeBack 17 = .ok (.bipush 14, 2) := by decide +kernel
theorem dX0_takeBack_19 : decode cX0_takeBack 19 = .ok (.irem, 1) := by decide +kernel
theorem dX0_takeBack_20 : decode cX0_takeBack 20 = .ok (.putfield 17, 3) := by decide +kernel
theorem dX0_takeBack_23 : decode cX0_takeBack 23 = .ok (.aload_n 1, 1) := by decide +kernel
theorem dX0_takeBack_24 : decode cX0_takeBack 24 = .ok (.aload_n 0, 1) := by decide +kernel
theorem dX0_takeBack_25 : decode cX0_takeBack 25 = .ok (.getfield 11, 3) := by decide +kernel
theorem dX0_takeBack_28 : decode cX0_takeBack 28 = .ok (.aload_n 0, 1) := by decide +kernel
theorem dX0_takeBack_29 : decode cX0_takeBack 29 = .ok (.getfield 17, 3) := by decide +kernel
theorem dX0_takeBack_32 : decode cX0_takeBack 32 = .ok (.aaload, 1) := by decide +kernel
theorem dX0_takeBack_33 : decode cX0_takeBack 33 = .ok (.invokevirtual 25, 3) := by decide +kernel
theorem dX0_takeBack_36 : decode cX0_takeBack 36 = .ok (.aload_n 0, 1) := by decide +kernel
theorem dX0_takeBack_37 : decode cX0_takeBack 37 = .ok (.dup, 1) := by decide +kernel
theorem dX0_takeBack_38 : decode cX0_takeBack 38 = .ok (.getfield 21, 3) := by decide +kernel
theorem dX0_takeBack_41 : decode cX0_takeBack 41 = .ok (.iconst 1, 1) := by decide +kernel
theorem dX0_takeBack_42 : decode cX0_takeBack 42 = .ok (.isub, 1) := by decide +kernel
theorem dX0_takeBack_43 : decode cX0_takeBack 43 = .ok (.putfield 21, 3) := by decide +kernel
theorem dX0_takeBack_46 : decode cX0_takeBack 46 = .ok (.return_, 1) := by decide +kernel
theorem dX1_clear_0 : decode cX1_clear 0 = .ok (.iconst 0, 1) := by decide +kernel
theorem dX1_clear_1 : decode cX1_clear 1 = .ok (.istore_n 1, 1) := by decide +kernel
theorem dX1_clear_2 : decode cX1_clear 2 = .ok (.iload_n 1, 1) := by decide +kernel
theorem dX1_clear_3 : decode cX1_clear 3 = .ok (.bipush 6, 2) := by decide +kernel
theorem dX1_clear_5 : decode cX1_clear 5 = .ok (.if_icmp .ge 16, 3) := by decide +kernel
theorem dX1_clear_8 : decode cX1_clear 8 = .ok (.aload_n 0, 1) := by decide +kernel
theorem dX1_clear_9 : decode cX1_clear 9 = .ok (.getfield 9, 3) := by decide +kernel
theorem dX1_clear_12 : decode cX1_clear 12 = .ok (.iload_n 1, 1) := by decide +kernel
theorem dX1_clear_13 : decode cX1_clear 13 = .ok (.iconst 0, 1) := by decide +kernel
theorem dX1_clear_14 : decode cX1_clear 14 = .ok (.iastore, 1) := by decide +kernel
theorem dX1_clear_15 : decode cX1_clear 15 = .ok (.iinc 1 1, 3) := by decide +kernel
theorem dX1_clear_18 : decode cX1_clear 18 = .ok (.goto (-16), 3) := by decide +kernel
theorem dX1_clear_21 : decode cX1_clear 21 = .ok (.return_, 1) := by decide +kernel
theorem dX1_burden_0 : decode cX1_burden 0 = .ok (.aload_n 0, 1) := by decide +kernel
theorem dX1_burden_1 : decode cX1_burden 1 = .ok (.getfield 9, 3) := by decide +kernel
theorem dX1_burden_4 : decode cX1_burden 4 = .ok (.iload_n 1, 1) := by decide +kernel
theorem dX1_burden_5 : decode cX1_burden 5 = .ok (.dup2, 1) := by decide +kernel
theorem dX1_burden_6 : decode cX1_burden 6 = .ok (.iaload, 1) := by decide +kernel
theorem dX1_burden_7 : decode cX1_burden 7 = .ok (.iload_n 2, 1) := by decide +kernel
theorem dX1_burden_8 : decode cX1_burden 8 = .ok (.iadd, 1) := by decide +kernel
theorem dX1_burden_9 : decode cX1_burden 9 = .ok (.iastore, 1) := by decide +kernel
theorem dX1_burden_10 : decode cX1_burden 10 = .ok (.return_, 1) := by decide +kernel
theorem dX1_burdenEnds_0 : decode cX1_burdenEnds 0 = .ok (.aload_n 0, 1) := by decide +kernel
theorem dX1_burdenEnds_1 : decode cX1_burdenEnds 1 = .ok (.getfield 9, 3) := by decide +kernel
theorem dX1_burdenEnds_4 : decode cX1_burdenEnds 4 = .ok (.aload_n 0, 1) := by decide +kernel
theorem dX1_burdenEnds_5 : decode cX1_burdenEnds 5 = .ok (.getfield 15, 3) := by decide +kernel
theorem dX1_burdenEnds_8 : decode cX1_burdenEnds 8 = .ok (.getfield 19, 3) := by decide +kernel
theorem dX1_burdenEnds_11 : decode cX1_burdenEnds 11 = .ok (.iload_n 1, 1) := by decide +kernel
theorem dX1_burdenEnds_12 : decode cX1_burdenEnds 12 = .ok (.iaload, 1) := by decide +kernel
theorem dX1_burdenEnds_13 : decode cX1_burdenEnds 13 = .ok (.dup2, 1) := by decide +kernel
theorem dX1_burdenEnds_14 : decode cX1_burdenEnds 14 = .ok (.iaload, 1) := by decide +kernel
theorem dX1_burdenEnds_15 : decode cX1_burdenEnds 15 = .ok (.iconst 1, 1) := by decide +kernel
theorem dX1_burdenEnds_16 : decode cX1_burdenEnds 16 = .ok (.iadd, 1) := by decide +kernel
theorem dX1_burdenEnds_17 : decode cX1_burdenEnds 17 = .ok (.iastore, 1) := by decide +kernel
theorem dX1_burdenEnds_18 : decode cX1_burdenEnds 18 = .ok (.aload_n 0, 1) := by decide +kernel
theorem dX1_burdenEnds_19 : decode cX1_burdenEnds 19 = .ok (.getfield 9, 3) := by decide +kernel
theorem dX1_burdenEnds_22 : decode cX1_burdenEnds 22 = .ok (.aload_n 0, 1) := by decide +kernel
theorem dX1_burdenEnds_23 : decode cX1_burdenEnds 23 = .ok (.getfield 15, 3) := by decide +kernel
theorem dX1_burdenEnds_26 : decode cX1_burdenEnds 26 = .ok (.getfield 24, 3) := by decide +kernel
theorem dX1_burdenEnds_29 : decode cX1_burdenEnds 29 = .ok (.iload_n 1, 1) := by decide +kernel
theorem dX1_burdenEnds_30 : decode cX1_burdenEnds 30 = .ok (.iaload, 1) := by decide +kernel
theorem dX1_burdenEnds_31 : decode cX1_burdenEnds 31 = .ok (.dup2, 1) := by decide +kernel
theorem dX1_burdenEnds_32 : decode cX1_burdenEnds 32 = .ok (.iaload, 1) := by decide +kernel
theorem dX1_burdenEnds_33 : decode cX1_burdenEnds 33 = .ok (.iconst 1, 1) := by decide +kernel
theorem dX1_burdenEnds_34 : decode cX1_burdenEnds 34 = .ok (.iadd, 1) := by decide +kernel
theorem dX1_burdenEnds_35 : decode cX1_burdenEnds 35 = .ok (.iastore, 1) := by decide +kernel
theorem dX1_burdenEnds_36 : decode cX1_burdenEnds 36 = .ok (.return_, 1) := by decide +kernel
theorem dX1_loadOf_0 : decode cX1_loadOf 0 = .ok (.aload_n 0, 1) := by decide +kernel
theorem dX1_loadOf_1 : decode cX1_loadOf 1 = .ok (.getfield 9, 3) := by decide +kernel
theorem dX1_loadOf_4 : decode cX1_loadOf 4 = .ok (.aload_n 0, 1) := by decide +kernel
theorem dX1_loadOf_5 : decode cX1_loadOf 5 = .ok (.getfield 15, 3) := by decide +kernel
theorem dX1_loadOf_8 : decode cX1_loadOf 8 = .ok (.getfield 19, 3) := by decide +kernel
theorem dX1_loadOf_11 : decode cX1_loadOf 11 = .ok (.iload_n 1, 1) := by decide +kernel
theorem dX1_loadOf_12 : decode cX1_loadOf 12 = .ok (.iaload, 1) := by decide +kernel
theorem dX1_loadOf_13 : decode cX1_loadOf 13 = .ok (.iaload, 1) := by decide +kernel
theorem dX1_loadOf_14 : decode cX1_loadOf 14 = .ok (.aload_n 0, 1) := by decide +kernel
theorem dX1_loadOf_15 : decode cX1_loadOf 15 = .ok (.getfield 9, 3) := by decide +kernel
theorem dX1_loadOf_18 : decode cX1_loadOf 18 = .ok (.aload_n 0, 1) := by decide +kernel
theorem dX1_loadOf_19 : decode cX1_loadOf 19 = .ok (.getfield 15, 3) := by decide +kernel
theorem dX1_loadOf_22 : decode cX1_loadOf 22 = .ok (.getfield 24, 3) := by decide +kernel
theorem dX1_loadOf_25 : decode cX1_loadOf 25 = .ok (.iload_n 1, 1) := by decide +kernel
theorem dX1_loadOf_26 : decode cX1_loadOf 26 = .ok (.iaload, 1) := by decide +kernel
theorem dX1_loadOf_27 : decode cX1_loadOf 27 = .ok (.iaload, 1) := by decide +kernel
theorem dX1_loadOf_28 : decode cX1_loadOf 28 = .ok (.iadd, 1) := by decide +kernel
theorem dX1_loadOf_29 : decode cX1_loadOf 29 = .ok (.ireturn, 1) := by decide +kernel
theorem dX1_ping_0 : decode cX1_ping 0 = .ok (.aload_n 1, 1) := by decide +kernel
theorem dX1_ping_1 : decode cX1_ping 1 = .ok (.getfield 27, 3) := by decide +kernel
theorem dX1_ping_4 : decode cX1_ping 4 = .ok (.invokestatic 33, 3) := by decide +kernel
theorem dX1_ping_7 : decode cX1_ping 7 = .ok (.istore_n 2, 1) := by decide +kernel
theorem dX1_ping_8 : decode cX1_ping 8 = .ok (.iconst 0, 1) := by decide +kernel
theorem dX1_ping_9 : decode cX1_ping 9 = .ok (.istore_n 3, 1) := by decide +kernel
theorem dX1_ping_10 : decode cX1_ping 10 = .ok (.iload_n 3, 1) := by decide +kernel
theorem dX1_ping_11 : decode cX1_ping 11 = .ok (.aload_n 0, 1) := by decide +kernel
theorem dX1_ping_12 : decode cX1_ping 12 = .ok (.getfield 15, 3) := by decide +kernel
theorem dX1_ping_15 : decode cX1_ping 15 = .ok (.getfield 39, 3) := by decide +kernel
theorem dX1_ping_18 : decode cX1_ping 18 = .ok (.if_icmp .gt 64, 3) := by decide +kernel
theorem dX1_ping_21 : decode cX1_ping 21 = .ok (.aload_n 0, 1) := by decide +kernel
theorem dX1_ping_22 : decode cX1_ping 22 = .ok (.aload_n 1, 1) := by decide +kernel
theorem dX1_ping_23 : decode cX1_ping 23 = .ok (.invokevirtual 42, 3) := by decide +kernel
theorem dX1_ping_26 : decode cX1_ping 26 = .ok (.istore 4, 2) := by decide +kernel
theorem dX1_ping_28 : decode cX1_ping 28 = .ok (.aload_n 1, 1) := by decide +kernel
theorem dX1_ping_29 : decode cX1_ping 29 = .ok (.dup, 1) := by decide +kernel
theorem dX1_ping_30 : decode cX1_ping 30 = .ok (.getfield 27, 3) := by decide +kernel
theorem dX1_ping_33 : decode cX1_ping 33 = .ok (.iload 4, 2) := by decide +kernel
theorem dX1_ping_35 : decode cX1_ping 35 = .ok (.ior, 1) := by decide +kernel
theorem dX1_ping_36 : decode cX1_ping 36 = .ok (.putfield 27, 3) := by decide +kernel
theorem dX1_ping_39 : decode cX1_ping 39 = .ok (.iconst 0, 1) := by decide +kernel
theorem dX1_ping_40 : decode cX1_ping 40 = .ok (.istore 5, 2) := by decide +kernel
theorem dX1_ping_42 : decode cX1_ping 42 = .ok (.iload 5, 2) := by decide +kernel
theorem dX1_ping_44 : decode cX1_ping 44 = .ok (.aload_n 0, 1) := by decide +kernel
theorem dX1_ping_45 : decode cX1_ping 45 = .ok (.getfield 15, 3) := by decide +kernel
theorem dX1_ping_48 : decode cX1_ping 48 = .ok (.getfield 39, 3) := by decide +kernel
theorem dX1_ping_51 : decode cX1_ping 51 = .ok (.if_icmp .ge 25, 3) := by decide +kernel
theorem dX1_ping_54 : decode cX1_ping 54 = .ok (.iload 4, 2) := by decide +kernel
theorem dX1_ping_56 : decode cX1_ping 56 = .ok (.iconst 1, 1) := by decide +kernel
theorem dX1_ping_57 : decode cX1_ping 57 = .ok (.iload 5, 2) := by decide +kernel
theorem dX1_ping_59 : decode cX1_ping 59 = .ok (.ishl, 1) := by decide +kernel
theorem dX1_ping_60 : decode cX1_ping 60 = .ok (.iand, 1) := by decide +kernel
theorem dX1_ping_61 : decode cX1_ping 61 = .ok (.ifCond .eq 9, 3) := by decide +kernel
theorem dX1_ping_64 : decode cX1_ping 64 = .ok (.aload_n 0, 1) := by decide +kernel
theorem dX1_ping_65 : decode cX1_ping 65 = .ok (.iload 5, 2) := by decide +kernel
theorem dX1_ping_67 : decode cX1_ping 67 = .ok (.invokevirtual 46, 3) := by decide +kernel
theorem dX1_ping_70 : decode cX1_ping 70 = .ok (.iinc 5 1, 3) := by decide +kernel
theorem dX1_ping_73 : decode cX1_ping 73 = .ok (.goto (-31), 3) := by decide +kernel
theorem dX1_ping_76 : decode cX1_ping 76 = .ok (.iinc 3 1, 3) := by decide +kernel
theorem dX1_ping_79 : decode cX1_ping 79 = .ok (.goto (-69), 3) := by decide +kernel
theorem dX1_ping_82 : decode cX1_ping 82 = .ok (.aload_n 1, 1) := by decide +kernel
theorem dX1_ping_83 : decode cX1_ping 83 = .ok (.getfield 27, 3) := by decide +kernel
theorem dX1_ping_86 : decode cX1_ping 86 = .ok (.invokestatic 33, 3) := by decide +kernel
theorem dX1_ping_89 : decode cX1_ping 89 = .ok (.iload_n 2, 1) := by decide +kernel
theorem dX1_ping_90 : decode cX1_ping 90 = .ok (.isub, 1) := by decide +kernel
theorem dX1_ping_91 : decode cX1_ping 91 = .ok (.ireturn, 1) := by decide +kernel
theorem dX1_givingNow_0 : decode cX1_givingNow 0 = .ok (.iconst 0, 1) := by decide +kernel
theorem dX1_givingNow_1 : decode cX1_givingNow 1 = .ok (.istore_n 2, 1) := by decide +kernel
theorem dX1_givingNow_2 : decode cX1_givingNow 2 = .ok (.iconst 0, 1) := by decide +kernel
theorem dX1_givingNow_3 : decode cX1_givingNow 3 = .ok (.istore_n 3, 1) := by decide +kernel
theorem dX1_givingNow_4 : decode cX1_givingNow 4 = .ok (.iload_n 3, 1) := by decide +kernel
theorem dX1_givingNow_5 : decode cX1_givingNow 5 = .ok (.aload_n 0, 1) := by decide +kernel
theorem dX1_givingNow_6 : decode cX1_givingNow 6 = .ok (.getfield 15, 3) := by decide +kernel
theorem dX1_givingNow_9 : decode cX1_givingNow 9 = .ok (.getfield 39, 3) := by decide +kernel
theorem dX1_givingNow_12 : decode cX1_givingNow 12 = .ok (.if_icmp .ge 45, 3) := by decide +kernel
theorem dX1_givingNow_15 : decode cX1_givingNow 15 = .ok (.aload_n 1, 1) := by decide +kernel
theorem dX1_givingNow_16 : decode cX1_givingNow 16 = .ok (.iload_n 3, 1) := by decide +kernel
theorem dX1_givingNow_17 : decode cX1_givingNow 17 = .ok (.invokevirtual 50, 3) := by decide +kernel
theorem dX1_givingNow_20 : decode cX1_givingNow 20 = .ok (.ifCond .ne 31, 3) := by decide +kernel
theorem dX1_givingNow_23 : decode cX1_givingNow 23 = .ok (.aload_n 0, 1) := by decide +kernel
theorem dX1_givingNow_24 : decode cX1_givingNow 24 = .ok (.iload_n 3, 1) := by decide +kernel
theorem dX1_givingNow_25 : decode cX1_givingNow 25 = .ok (.invokevirtual 54, 3) := by decide +kernel
theorem dX1_givingNow_28 : decode cX1_givingNow 28 = .ok (.aload_n 0, 1) := by decide +kernel
theorem dX1_givingNow_29 : decode cX1_givingNow 29 = .ok (.getfield 15, 3) := by decide +kernel
theorem dX1_givingNow_32 : decode cX1_givingNow 32 = .ok (.iload_n 3, 1) := by decide +kernel
theorem dX1_givingNow_33 : decode cX1_givingNow 33 = .ok (.aload_n 1, 1) := by decide +kernel
theorem dX1_givingNow_34 : decode cX1_givingNow 34 = .ok (.getfield 57, 3) := by decide +kernel
theorem dX1_givingNow_37 : decode cX1_givingNow 37 = .ok (.iload_n 3, 1) := by decide +kernel
theorem dX1_givingNow_38 : decode cX1_givingNow 38 = .ok (.iaload, 1) := by decide +kernel
theorem dX1_givingNow_39 : decode cX1_givingNow 39 = .ok (.invokevirtual 60, 3) := by decide +kernel
theorem dX1_givingNow_42 : decode cX1_givingNow 42 = .ok (.if_icmp .le 9, 3) := by decide +kernel
theorem dX1_givingNow_45 : decode cX1_givingNow 45 = .ok (.iload_n 2, 1) := by decide +kernel
theorem dX1_givingNow_46 : decode cX1_givingNow 46 = .ok (.iconst 1, 1) := by decide +kernel
theorem dX1_givingNow_47 : decode cX1_givingNow 47 = .ok (.iload_n 3, 1) := by decide +kernel
theorem dX1_givingNow_48 : decode cX1_givingNow 48 = .ok (.ishl, 1) := by decide +kernel
theorem dX1_givingNow_49 : decode cX1_givingNow 49 = .ok (.ior, 1) := by decide +kernel
theorem dX1_givingNow_50 : decode cX1_givingNow 50 = .ok (.istore_n 2, 1) := by decide +kernel
theorem dX1_givingNow_51 : decode cX1_givingNow 51 = .ok (.iinc 3 1, 3) := by decide +kernel
theorem dX1_givingNow_54 : decode cX1_givingNow 54 = .ok (.goto (-50), 3) := by decide +kernel
theorem dX1_givingNow_57 : decode cX1_givingNow 57 = .ok (.iload_n 2, 1) := by decide +kernel
theorem dX1_givingNow_58 : decode cX1_givingNow 58 = .ok (.ireturn, 1) := by decide +kernel
theorem dX1_pullAt_0 : decode cX1_pullAt 0 = .ok (.aload_n 0, 1) := by decide +kernel
theorem dX1_pullAt_1 : decode cX1_pullAt 1 = .ok (.invokevirtual 64, 3) := by decide +kernel
theorem dX1_pullAt_4 : decode cX1_pullAt 4 = .ok (.aload_n 0, 1) := by decide +kernel
theorem dX1_pullAt_5 : decode cX1_pullAt 5 = .ok (.iload_n 2, 1) := by decide +kernel
theorem dX1_pullAt_6 : decode cX1_pullAt 6 = .ok (.iload_n 3, 1) := by decide +kernel
theorem dX1_pullAt_7 : decode cX1_pullAt 7 = .ok (.invokevirtual 67, 3) := by decide +kernel
theorem dX1_pullAt_10 : decode cX1_pullAt 10 = .ok (.aload_n 0, 1) := by decide +kernel
theorem dX1_pullAt_11 : decode cX1_pullAt 11 = .ok (.aload_n 1, 1) := by decide +kernel
theorem dX1_pullAt_12 : decode cX1_pullAt 12 = .ok (.invokevirtual 71, 3) := by decide +kernel
theorem dX1_pullAt_15 : decode cX1_pullAt 15 = .ok (.ireturn, 1) := by decide +kernel
theorem dX1_passDay_0 : decode cX1_passDay 0 = .ok (.aload_n 0, 1) := by decide +kernel
theorem dX1_passDay_1 : decode cX1_passDay 1 = .ok (.aload_n 1, 1) := by decide +kernel
theorem dX1_passDay_2 : decode cX1_passDay 2 = .ok (.invokevirtual 74, 3) := by decide +kernel
theorem dX1_passDay_5 : decode cX1_passDay 5 = .ok (.aload_n 0, 1) := by decide +kernel
theorem dX1_passDay_6 : decode cX1_passDay 6 = .ok (.invokevirtual 64, 3) := by decide +kernel
theorem dX1_passDay_9 : decode cX1_passDay 9 = .ok (.aload_n 0, 1) := by decide +kernel
theorem dX1_passDay_10 : decode cX1_passDay 10 = .ok (.getfield 15, 3) := by decide +kernel
theorem dX1_passDay_13 : decode cX1_passDay 13 = .ok (.getfield 78, 3) := by decide +kernel
theorem dX1_passDay_16 : decode cX1_passDay 16 = .ok (.ifCond .le 40, 3) := by decide +kernel
theorem dX1_passDay_19 : decode cX1_passDay 19 = .ok (.aload_n 1, 1) := by decide +kernel
theorem dX1_passDay_20 : decode cX1_passDay 20 = .ok (.getfield 81, 3) := by decide +kernel
theorem dX1_passDay_23 : decode cX1_passDay 23 = .ok (.aload_n 0, 1) := by decide +kernel
theorem dX1_passDay_24 : decode cX1_passDay 24 = .ok (.getfield 15, 3) := by decide +kernel
theorem dX1_passDay_27 : decode cX1_passDay 27 = .ok (.getfield 78, 3) := by decide +kernel
theorem dX1_passDay_30 : decode cX1_passDay 30 = .ok (.invokestatic 84, 3) := by decide +kernel
theorem dX1_passDay_33 : decode cX1_passDay 33 = .ok (.istore_n 2, 1) := by decide +kernel
theorem dX1_passDay_34 : decode cX1_passDay 34 = .ok (.aload_n 0, 1) := by decide +kernel
theorem dX1_passDay_35 : decode cX1_passDay 35 = .ok (.aload_n 0, 1) := by decide +kernel
theorem dX1_passDay_36 : decode cX1_passDay 36 = .ok (.getfield 15, 3) := by decide +kernel
theorem dX1_passDay_39 : decode cX1_passDay 39 = .ok (.getfield 89, 3) := by decide +kernel
theorem dX1_passDay_42 : decode cX1_passDay 42 = .ok (.iload_n 2, 1) := by decide +kernel
theorem dX1_passDay_43 : decode cX1_passDay 43 = .ok (.iaload, 1) := by decide +kernel
theorem dX1_passDay_44 : decode cX1_passDay 44 = .ok (.aload_n 0, 1) := by decide +kernel
theorem dX1_passDay_45 : decode cX1_passDay 45 = .ok (.getfield 15, 3) := by decide +kernel
theorem dX1_passDay_48 : decode cX1_passDay 48 = .ok (.getfield 92, 3) := by decide +kernel
theorem dX1_passDay_51 : decode cX1_passDay 51 = .ok (.iload_n 2, 1) := by decide +kernel
theorem dX1_passDay_52 : decode cX1_passDay 52 = .ok (.iaload, 1) := by decide +kernel
theorem dX1_passDay_53 : decode cX1_passDay 53 = .ok (.invokevirtual 67, 3) := by decide +kernel
theorem dX1_passDay_56 : decode cX1_passDay 56 = .ok (.aload_n 0, 1) := by decide +kernel
theorem dX1_passDay_57 : decode cX1_passDay 57 = .ok (.aload_n 1, 1) := by decide +kernel
theorem dX1_passDay_58 : decode cX1_passDay 58 = .ok (.invokevirtual 71, 3) := by decide +kernel
theorem dX1_passDay_61 : decode cX1_passDay 61 = .ok (.istore_n 2, 1) := by decide +kernel
theorem dX1_passDay_62 : decode cX1_passDay 62 = .ok (.aload_n 0, 1) := by decide +kernel
theorem dX1_passDay_63 : decode cX1_passDay 63 = .ok (.aload_n 1, 1) := by decide +kernel
theorem dX1_passDay_64 : decode cX1_passDay 64 = .ok (.invokevirtual 95, 3) := by decide +kernel
theorem dX1_passDay_67 : decode cX1_passDay 67 = .ok (.aload_n 1, 1) := by decide +kernel
theorem dX1_passDay_68 : decode cX1_passDay 68 = .ok (.dup, 1) := by decide +kernel
theorem dX1_passDay_69 : decode cX1_passDay 69 = .ok (.getfield 81, 3) := by decide +kernel
theorem dX1_passDay_72 : decode cX1_passDay 72 = .ok (.iconst 1, 1) := by decide +kernel
theorem dX1_passDay_73 : decode cX1_passDay 73 = .ok (.iadd, 1) := by decide +kernel
theorem dX1_passDay_74 : decode cX1_passDay 74 = .ok (.putfield 81, 3) := by decide +kernel
theorem dX1_passDay_77 : decode cX1_passDay 77 = .ok (.iload_n 2, 1) := by decide +kernel
theorem dX1_passDay_78 : decode cX1_passDay 78 = .ok (.ireturn, 1) := by decide +kernel
theorem dX1_springShut_0 : decode cX1_springShut 0 = .ok (.iconst 0, 1) := by decide +kernel
theorem dX1_springShut_1 : decode cX1_springShut 1 = .ok (.istore_n 2, 1) := by decide +kernel
theorem dX1_springShut_2 : decode cX1_springShut 2 = .ok (.iload_n 2, 1) := by decide +kernel
theorem dX1_springShut_3 : decode cX1_springShut 3 = .ok (.aload_n 0, 1) := by decide +kernel
theorem dX1_springShut_4 : decode cX1_springShut 4 = .ok (.getfield 15, 3) := by decide +kernel
theorem dX1_springShut_7 : decode cX1_springShut 7 = .ok (.getfield 39, 3) := by decide +kernel
theorem dX1_springShut_10 : decode cX1_springShut 10 = .ok (.if_icmp .ge 36, 3) := by decide +kernel
theorem dX1_springShut_13 : decode cX1_springShut 13 = .ok (.aload_n 0, 1) := by decide +kernel
theorem dX1_springShut_14 : decode cX1_springShut 14 = .ok (.getfield 15, 3) := by decide +kernel
theorem dX1_springShut_17 : decode cX1_springShut 17 = .ok (.getfield 98, 3) := by decide +kernel
theorem dX1_springShut_20 : decode cX1_springShut 20 = .ok (.iload_n 2, 1) := by decide +kernel
theorem dX1_springShut_21 : decode cX1_springShut 21 = .ok (.iaload, 1) := by decide +kernel
theorem dX1_springShut_22 : decode cX1_springShut 22 = .ok (.iconst 3, 1) := by decide +kernel
theorem dX1_springShut_23 : decode cX1_springShut 23 = .ok (.if_icmp .ne 17, 3) := by decide +kernel
theorem dX1_springShut_26 : decode cX1_springShut 26 = .ok (.aload_n 1, 1) := by decide +kernel
theorem dX1_springShut_27 : decode cX1_springShut 27 = .ok (.dup, 1) := by decide +kernel
theorem dX1_springShut_28 : decode cX1_springShut 28 = .ok (.getfield 27, 3) := by decide +kernel
theorem dX1_springShut_31 : decode cX1_springShut 31 = .ok (.iconst 1, 1) := by decide +kernel
theorem dX1_springShut_32 : decode cX1_springShut 32 = .ok (.iload_n 2, 1) := by decide +kernel
theorem dX1_springShut_33 : decode cX1_springShut 33 = .ok (.ishl, 1) := by decide +kernel
theorem dX1_springShut_34 : decode cX1_springShut 34 = .ok (.iconst (-1), 1) := by decide +kernel
theorem dX1_springShut_35 : decode cX1_springShut 35 = .ok (.ixor, 1) := by decide +kernel
theorem dX1_springShut_36 : decode cX1_springShut 36 = .ok (.iand, 1) := by decide +kernel
theorem dX1_springShut_37 : decode cX1_springShut 37 = .ok (.putfield 27, 3) := by decide +kernel
theorem dX1_springShut_40 : decode cX1_springShut 40 = .ok (.iinc 2 1, 3) := by decide +kernel
theorem dX1_springShut_43 : decode cX1_springShut 43 = .ok (.goto (-41), 3) := by decide +kernel
theorem dX1_springShut_46 : decode cX1_springShut 46 = .ok (.return_, 1) := by decide +kernel
theorem dX1_wearDown_0 : decode cX1_wearDown 0 = .ok (.iconst 0, 1) := by decide +kernel
theorem dX1_wearDown_1 : decode cX1_wearDown 1 = .ok (.istore_n 2, 1) := by decide +kernel
theorem dX1_wearDown_2 : decode cX1_wearDown 2 = .ok (.iload_n 2, 1) := by decide +kernel
theorem dX1_wearDown_3 : decode cX1_wearDown 3 = .ok (.aload_n 0, 1) := by decide +kernel
theorem dX1_wearDown_4 : decode cX1_wearDown 4 = .ok (.getfield 15, 3) := by decide +kernel
theorem dX1_wearDown_7 : decode cX1_wearDown 7 = .ok (.getfield 39, 3) := by decide +kernel
theorem dX1_wearDown_10 : decode cX1_wearDown 10 = .ok (.if_icmp .ge 49, 3) := by decide +kernel
theorem dX1_wearDown_13 : decode cX1_wearDown 13 = .ok (.aload_n 0, 1) := by decide +kernel
theorem dX1_wearDown_14 : decode cX1_wearDown 14 = .ok (.getfield 15, 3) := by decide +kernel
theorem dX1_wearDown_17 : decode cX1_wearDown 17 = .ok (.getfield 98, 3) := by decide +kernel
theorem dX1_wearDown_20 : decode cX1_wearDown 20 = .ok (.iload_n 2, 1) := by decide +kernel
theorem dX1_wearDown_21 : decode cX1_wearDown 21 = .ok (.iaload, 1) := by decide +kernel
theorem dX1_wearDown_22 : decode cX1_wearDown 22 = .ok (.iconst 2, 1) := by decide +kernel
theorem dX1_wearDown_23 : decode cX1_wearDown 23 = .ok (.if_icmp .ne 30, 3) := by decide +kernel
theorem dX1_wearDown_26 : decode cX1_wearDown 26 = .ok (.aload_n 1, 1) := by decide +kernel
theorem dX1_wearDown_27 : decode cX1_wearDown 27 = .ok (.iload_n 2, 1) := by decide +kernel
theorem dX1_wearDown_28 : decode cX1_wearDown 28 = .ok (.invokevirtual 50, 3) := by decide +kernel
theorem dX1_wearDown_31 : decode cX1_wearDown 31 = .ok (.ifCond .ne 22, 3) := by decide +kernel
theorem dX1_wearDown_34 : decode cX1_wearDown 34 = .ok (.aload_n 0, 1) := by decide +kernel
theorem dX1_wearDown_35 : decode cX1_wearDown 35 = .ok (.iload_n 2, 1) := by decide +kernel
theorem dX1_wearDown_36 : decode cX1_wearDown 36 = .ok (.invokevirtual 54, 3) := by decide +kernel
theorem dX1_wearDown_39 : decode cX1_wearDown 39 = .ok (.iconst 1, 1) := by decide +kernel
theorem dX1_wearDown_40 : decode cX1_wearDown 40 = .ok (.if_icmp .lt 13, 3) := by decide +kernel
theorem dX1_wearDown_43 : decode cX1_wearDown 43 = .ok (.aload_n 1, 1) := by decide +kernel
theorem dX1_wearDown_44 : decode cX1_wearDown 44 = .ok (.getfield 57, 3) := by decide +kernel
theorem dX1_wearDown_47 : decode cX1_wearDown 47 = .ok (.iload_n 2, 1) := by decide +kernel
theorem dX1_wearDown_48 : decode cX1_wearDown 48 = .ok (.dup2, 1) := by decide +kernel
theorem dX1_wearDown_49 : decode cX1_wearDown 49 = .ok (.iaload, 1) := by decide +kernel
theorem dX1_wearDown_50 : decode cX1_wearDown 50 = .ok (.iconst 1, 1) := by decide +kernel
theorem dX1_wearDown_51 : decode cX1_wearDown 51 = .ok (.iadd, 1) := by decide +kernel
theorem dX1_wearDown_52 : decode cX1_wearDown 52 = .ok (.iastore, 1) := by decide +kernel
theorem dX1_wearDown_53 : decode cX1_wearDown 53 = .ok (.iinc 2 1, 3) := by decide +kernel
theorem dX1_wearDown_56 : decode cX1_wearDown 56 = .ok (.goto (-54), 3) := by decide +kernel
theorem dX1_wearDown_59 : decode cX1_wearDown 59 = .ok (.return_, 1) := by decide +kernel
theorem dX2_begin_0 : decode cX2_begin 0 = .ok (.aload_n 0, 1) := by decide +kernel
theorem dX2_begin_1 : decode cX2_begin 1 = .ok (.iconst 0, 1) := by decide +kernel
theorem dX2_begin_2 : decode cX2_begin 2 = .ok (.putfield 9, 3) := by decide +kernel
theorem dX2_begin_5 : decode cX2_begin 5 = .ok (.aload_n 0, 1) := by decide +kernel
theorem dX2_begin_6 : decode cX2_begin 6 = .ok (.iconst 0, 1) := by decide +kernel
theorem dX2_begin_7 : decode cX2_begin 7 = .ok (.putfield 19, 3) := by decide +kernel
theorem dX2_begin_10 : decode cX2_begin 10 = .ok (.iconst 0, 1) := by decide +kernel
theorem dX2_begin_11 : decode cX2_begin 11 = .ok (.istore_n 1, 1) := by decide +kernel
theorem dX2_begin_12 : decode cX2_begin 12 = .ok (.iload_n 1, 1) := by decide +kernel
theorem dX2_begin_13 : decode cX2_begin 13 = .ok (.bipush 7, 2) := by decide +kernel
theorem dX2_begin_15 : decode cX2_begin 15 = .ok (.if_icmp .ge 16, 3) := by decide +kernel
theorem dX2_begin_18 : decode cX2_begin 18 = .ok (.aload_n 0, 1) := by decide +kernel
theorem dX2_begin_19 : decode cX2_begin 19 = .ok (.getfield 15, 3) := by decide +kernel
theorem dX2_begin_22 : decode cX2_begin 22 = .ok (.iload_n 1, 1) := by decide +kernel
theorem dX2_begin_23 : decode cX2_begin 23 = .ok (.iconst 0, 1) := by decide +kernel
theorem dX2_begin_24 : decode cX2_begin 24 = .ok (.iastore, 1) := by decide +kernel
theorem dX2_begin_25 : decode cX2_begin 25 = .ok (.iinc 1 1, 3) := by decide +kernel
theorem dX2_begin_28 : decode cX2_begin 28 = .ok (.goto (-16), 3) := by decide +kernel
theorem dX2_begin_31 : decode cX2_begin 31 = .ok (.return_, 1) := by decide +kernel
theorem dX2_become_0 : decode cX2_become 0 = .ok (.aload_n 0, 1) := by decide +kernel
theorem dX2_become_1 : decode cX2_become 1 = .ok (.aload_n 1, 1) := by decide +kernel
theorem dX2_become_2 : decode cX2_become 2 = .ok (.getfield 9, 3) := by decide +kernel
theorem dX2_become_5 : decode cX2_become 5 = .ok (.putfield 9, 3) := by decide +kernel
theorem dX2_become_8 : decode cX2_become 8 = .ok (.aload_n 0, 1) := by decide +kernel
theorem dX2_become_9 : decode cX2_become 9 = .ok (.aload_n 1, 1) := by decide +kernel
theorem dX2_become_10 : decode cX2_become 10 = .ok (.getfield 19, 3) := by decide +kernel
theorem dX2_become_13 : decode cX2_become 13 = .ok (.putfield 19, 3) := by decide +kernel
theorem dX2_become_16 : decode cX2_become 16 = .ok (.iconst 0, 1) := by decide +kernel
theorem dX2_become_17 : decode cX2_become 17 = .ok (.istore_n 2, 1) := by decide +kernel
theorem dX2_become_18 : decode cX2_become 18 = .ok (.iload_n 2, 1) := by decide +kernel
theorem dX2_become_19 : decode cX2_become 19 = .ok (.bipush 7, 2) := by decide +kernel
theorem dX2_become_21 : decode cX2_become 21 = .ok (.if_icmp .ge 21, 3) := by decide +kernel
theorem dX2_become_24 : decode cX2_become 24 = .ok (.aload_n 0, 1) := by decide +kernel
theorem dX2_become_25 : decode cX2_become 25 = .ok (.getfield 15, 3) := by decide +kernel
theorem dX2_become_28 : decode cX2_become 28 = .ok (.iload_n 2, 1) := by decide +kernel
theorem dX2_become_29 : decode cX2_become 29 = .ok (.aload_n 1, 1) := by decide +kernel
theorem dX2_become_30 : decode cX2_become 30 = .ok (.getfield 15, 3) := by decide +kernel
theorem dX2_become_33 : decode cX2_become 33 = .ok (.iload_n 2, 1) := by decide +kernel
theorem dX2_become_34 : decode cX2_become 34 = .ok (.iaload, 1) := by decide +kernel
theorem dX2_become_35 : decode cX2_become 35 = .ok (.iastore, 1) := by decide +kernel
theorem dX2_become_36 : decode cX2_become 36 = .ok (.iinc 2 1, 3) := by decide +kernel
theorem dX2_become_39 : decode cX2_become 39 = .ok (.goto (-21), 3) := by decide +kernel
theorem dX2_become_42 : decode cX2_become 42 = .ok (.return_, 1) := by decide +kernel
theorem dX2_isOpen_0 : decode cX2_isOpen 0 = .ok (.aload_n 0, 1) := by decide +kernel
theorem dX2_isOpen_1 : decode cX2_isOpen 1 = .ok (.getfield 9, 3) := by decide +kernel
theorem dX2_isOpen_4 : decode cX2_isOpen 4 = .ok (.iconst 1, 1) := by decide +kernel
theorem dX2_isOpen_5 : decode cX2_isOpen 5 = .ok (.iload_n 1, 1) := by decide +kernel
theorem dX2_isOpen_6 : decode cX2_isOpen 6 = .ok (.ishl, 1) := by decide +kernel
theorem dX2_isOpen_7 : decode cX2_isOpen 7 = .ok (.iand, 1) := by decide +kernel
theorem dX2_isOpen_8 : decode cX2_isOpen 8 = .ok (.ifCond .eq 7, 3) := by decide +kernel
theorem dX2_isOpen_11 : decode cX2_isOpen 11 = .ok (.iconst 1, 1) := by decide +kernel
theorem dX2_isOpen_12 : decode cX2_isOpen 12 = .ok (.goto 4, 3) := by decide +kernel
theorem dX2_isOpen_15 : decode cX2_isOpen 15 = .ok (.iconst 0, 1) := by decide +kernel
theorem dX2_isOpen_16 : decode cX2_isOpen 16 = .ok (.ireturn, 1) := by decide +kernel
theorem dX2_close_0 : decode cX2_close 0 = .ok (.aload_n 0, 1) := by decide +kernel
theorem dX2_close_1 : decode cX2_close 1 = .ok (.dup, 1) := by decide +kernel
theorem dX2_close_2 : decode cX2_close 2 = .ok (.getfield 9, 3) := by decide +kernel
theorem dX2_close_5 : decode cX2_close 5 = .ok (.iconst 1, 1) := by decide +kernel
theorem dX2_close_6 : decode cX2_close 6 = .ok (.iload_n 1, 1) := by decide +kernel
theorem dX2_close_7 : decode cX2_close 7 = .ok (.ishl, 1) := by decide +kernel
theorem dX2_close_8 : decode cX2_close 8 = .ok (.iconst (-1), 1) := by decide +kernel
theorem dX2_close_9 : decode cX2_close 9 = .ok (.ixor, 1) := by decide +kernel
theorem dX2_close_10 : decode cX2_close 10 = .ok (.iand, 1) := by decide +kernel
theorem dX2_close_11 : decode cX2_close 11 = .ok (.putfield 9, 3) := by decide +kernel
theorem dX2_close_14 : decode cX2_close 14 = .ok (.aload_n 0, 1) := by decide +kernel
theorem dX2_close_15 : decode cX2_close 15 = .ok (.getfield 15, 3) := by decide +kernel
theorem dX2_close_18 : decode cX2_close 18 = .ok (.iload_n 1, 1) := by decide +kernel
theorem dX2_close_19 : decode cX2_close 19 = .ok (.iconst 0, 1) := by decide +kernel
theorem dX2_close_20 : decode cX2_close 20 = .ok (.iastore, 1) := by decide +kernel
theorem dX2_close_21 : decode cX2_close 21 = .ok (.return_, 1) := by decide +kernel
theorem dX2_unpin_0 : decode cX2_unpin 0 = .ok (.aload_n 0, 1) := by decide +kernel
theorem dX2_unpin_1 : decode cX2_unpin 1 = .ok (.dup, 1) := by decide +kernel
theorem dX2_unpin_2 : decode cX2_unpin 2 = .ok (.getfield 9, 3) := by decide +kernel
theorem dX2_unpin_5 : decode cX2_unpin 5 = .ok (.iconst 1, 1) := by decide +kernel
theorem dX2_unpin_6 : decode cX2_unpin 6 = .ok (.iload_n 1, 1) := by decide +kernel
theorem dX2_unpin_7 : decode cX2_unpin 7 = .ok (.ishl, 1) := by decide +kernel
theorem dX2_unpin_8 : decode cX2_unpin 8 = .ok (.ior, 1) := by decide +kernel
theorem dX2_unpin_9 : decode cX2_unpin 9 = .ok (.putfield 9, 3) := by decide +kernel
theorem dX2_unpin_12 : decode cX2_unpin 12 = .ok (.return_, 1) := by decide +kernel
theorem dX2_wearOfAll_0 : decode cX2_wearOfAll 0 = .ok (.iconst 0, 1) := by decide +kernel
theorem dX2_wearOfAll_1 : decode cX2_wearOfAll 1 = .ok (.istore_n 1, 1) := by decide +kernel
theorem dX2_wearOfAll_2 : decode cX2_wearOfAll 2 = .ok (.iconst 0, 1) := by decide +kernel
theorem dX2_wearOfAll_3 : decode cX2_wearOfAll 3 = .ok (.istore_n 2, 1) := by decide +kernel
theorem dX2_wearOfAll_4 : decode cX2_wearOfAll 4 = .ok (.iload_n 2, 1) := by decide +kernel
theorem dX2_wearOfAll_5 : decode cX2_wearOfAll 5 = .ok (.bipush 7, 2) := by decide +kernel
theorem dX2_wearOfAll_7 : decode cX2_wearOfAll 7 = .ok (.if_icmp .ge 18, 3) := by decide +kernel
theorem dX2_wearOfAll_10 : decode cX2_wearOfAll 10 = .ok (.iload_n 1, 1) := by decide +kernel
theorem dX2_wearOfAll_11 : decode cX2_wearOfAll 11 = .ok (.aload_n 0, 1) := by decide +kernel
theorem dX2_wearOfAll_12 : decode cX2_wearOfAll 12 = .ok (.getfield 15, 3) := by decide +kernel
theorem dX2_wearOfAll_15 : decode cX2_wearOfAll 15 = .ok (.iload_n 2, 1) := by decide +kernel
theorem dX2_wearOfAll_16 : decode cX2_wearOfAll 16 = .ok (.iaload, 1) := by decide +kernel
theorem dX2_wearOfAll_17 : decode cX2_wearOfAll 17 = .ok (.iadd, 1) := by decide +kernel
theorem dX2_wearOfAll_18 : decode cX2_wearOfAll 18 = .ok (.istore_n 1, 1) := by decide +kernel
theorem dX2_wearOfAll_19 : decode cX2_wearOfAll 19 = .ok (.iinc 2 1, 3) := by decide +kernel
theorem dX2_wearOfAll_22 : decode cX2_wearOfAll 22 = .ok (.goto (-18), 3) := by decide +kernel
theorem dX2_wearOfAll_25 : decode cX2_wearOfAll 25 = .ok (.iload_n 1, 1) := by decide +kernel
theorem dX2_wearOfAll_26 : decode cX2_wearOfAll 26 = .ok (.ireturn, 1) := by decide +kernel
theorem dX3_add_0 : decode cX3_add 0 = .ok (.aload_n 0, 1) := by decide +kernel
theorem dX3_add_1 : decode cX3_add 1 = .ok (.getfield 15, 3) := by decide +kernel
theorem dX3_add_4 : decode cX3_add 4 = .ok (.ifCond .lt 32, 3) := by decide +kernel
theorem dX3_add_7 : decode cX3_add 7 = .ok (.aload_n 0, 1) := by decide +kernel
theorem dX3_add_8 : decode cX3_add 8 = .ok (.getfield 15, 3) := by decide +kernel
theorem dX3_add_11 : decode cX3_add 11 = .ok (.bipush 60, 2) := by decide +kernel
theorem dX3_add_13 : decode cX3_add 13 = .ok (.if_icmp .ge 23, 3) := by decide +kernel
theorem dX3_add_16 : decode cX3_add 16 = .ok (.aload_n 0, 1) := by decide +kernel
theorem dX3_add_17 : decode cX3_add 17 = .ok (.getfield 9, 3) := by decide +kernel
theorem dX3_add_20 : decode cX3_add 20 = .ok (.aload_n 0, 1) := by decide +kernel
theorem dX3_add_21 : decode cX3_add 21 = .ok (.getfield 15, 3) := by decide +kernel
theorem dX3_add_24 : decode cX3_add 24 = .ok (.iload_n 1, 1) := by decide +kernel
theorem dX3_add_25 : decode cX3_add 25 = .ok (.iastore, 1) := by decide +kernel
theorem dX3_add_26 : decode cX3_add 26 = .ok (.aload_n 0, 1) := by decide +kernel
theorem dX3_add_27 : decode cX3_add 27 = .ok (.dup, 1) := by decide +kernel
theorem dX3_add_28 : decode cX3_add 28 = .ok (.getfield 15, 3) := by decide +kernel
theorem dX3_add_31 : decode cX3_add 31 = .ok (.iconst 1, 1) := by decide +kernel
theorem dX3_add_32 : decode cX3_add 32 = .ok (.iadd, 1) := by decide +kernel
theorem dX3_add_33 : decode cX3_add 33 = .ok (.putfield 15, 3) := by decide +kernel
theorem dX3_add_36 : decode cX3_add 36 = .ok (.return_, 1) := by decide +kernel
theorem dX3_figure_0 : decode cX3_figure 0 = .ok (.iload_n 1, 1) := by decide +kernel
theorem dX3_figure_1 : decode cX3_figure 1 = .ok (.ifCond .lt 11, 3) := by decide +kernel
theorem dX3_figure_4 : decode cX3_figure 4 = .ok (.iload_n 1, 1) := by decide +kernel
theorem dX3_figure_5 : decode cX3_figure 5 = .ok (.aload_n 0, 1) := by decide +kernel
theorem dX3_figure_6 : decode cX3_figure 6 = .ok (.getfield 15, 3) := by decide +kernel
theorem dX3_figure_9 : decode cX3_figure 9 = .ok (.if_icmp .lt 5, 3) := by decide +kernel
theorem dX3_figure_12 : decode cX3_figure 12 = .ok (.iconst (-1), 1) := by decide +kernel
theorem dX3_figure_13 : decode cX3_figure 13 = .ok (.ireturn, 1) := by decide +kernel
theorem dX3_figure_14 : decode cX3_figure 14 = .ok (.aload_n 0, 1) := by decide +kernel
theorem dX3_figure_15 : decode cX3_figure 15 = .ok (.getfield 9, 3) := by decide +kernel
theorem dX3_figure_18 : decode cX3_figure 18 = .ok (.iload_n 1, 1) := by decide +kernel
theorem dX3_figure_19 : decode cX3_figure 19 = .ok (.iaload, 1) := by decide +kernel
theorem dX3_figure_20 : decode cX3_figure 20 = .ok (.istore_n 2, 1) := by decide +kernel
theorem dX3_figure_21 : decode cX3_figure 21 = .ok (.iload_n 2, 1) := by decide +kernel
theorem dX3_figure_22 : decode cX3_figure 22 = .ok (.bipush 48, 2) := by decide +kernel
theorem dX3_figure_24 : decode cX3_figure 24 = .ok (.if_icmp .lt 16, 3) := by decide +kernel
theorem dX3_figure_27 : decode cX3_figure 27 = .ok (.iload_n 2, 1) := by decide +kernel
theorem dX3_figure_28 : decode cX3_figure 28 = .ok (.bipush 57, 2) := by decide +kernel
theorem dX3_figure_30 : decode cX3_figure 30 = .ok (.if_icmp .gt 10, 3) := by decide +kernel
theorem dX3_figure_33 : decode cX3_figure 33 = .ok (.iload_n 2, 1) := by decide +kernel
theorem dX3_figure_34 : decode cX3_figure 34 = .ok (.bipush 48, 2) := by decide +kernel
theorem dX3_figure_36 : decode cX3_figure 36 = .ok (.isub, 1) := by decide +kernel
theorem dX3_figure_37 : decode cX3_figure 37 = .ok (.goto 4, 3) := by decide +kernel
theorem dX3_figure_40 : decode cX3_figure 40 = .ok (.iconst (-1), 1) := by decide +kernel
theorem dX3_figure_41 : decode cX3_figure 41 = .ok (.ireturn, 1) := by decide +kernel
theorem dX3_sizeOfPart_0 : decode cX3_sizeOfPart 0 = .ok (.iload_n 0, 1) := by decide +kernel
theorem dX3_sizeOfPart_1 : decode cX3_sizeOfPart 1 = .ok (.bipush 78, 2) := by decide +kernel
theorem dX3_sizeOfPart_3 : decode cX3_sizeOfPart 3 = .ok (.if_icmp .ne 5, 3) := by decide +kernel
theorem dX3_sizeOfPart_6 : decode cX3_sizeOfPart 6 = .ok (.iconst 5, 1) := by decide +kernel
theorem dX3_sizeOfPart_7 : decode cX3_sizeOfPart 7 = .ok (.ireturn, 1) := by decide +kernel
theorem dX3_sizeOfPart_8 : decode cX3_sizeOfPart 8 = .ok (.iload_n 0, 1) := by decide +kernel
theorem dX3_sizeOfPart_9 : decode cX3_sizeOfPart 9 = .ok (.bipush 87, 2) := by decide +kernel
theorem dX3_sizeOfPart_11 : decode cX3_sizeOfPart 11 = .ok (.if_icmp .eq 9, 3) := by decide +kernel
theorem dX3_sizeOfPart_14 : decode cX3_sizeOfPart 14 = .ok (.iload_n 0, 1) := by decide +kernel
theorem dX3_sizeOfPart_15 : decode cX3_sizeOfPart 15 = .ok (.bipush 68, 2) := by decide +kernel
theorem dX3_sizeOfPart_17 : decode cX3_sizeOfPart 17 = .ok (.if_icmp .ne 7, 3) := by decide +kernel
theorem dX3_sizeOfPart_20 : decode cX3_sizeOfPart 20 = .ok (.iconst 3, 1) := by decide +kernel
theorem dX3_sizeOfPart_21 : decode cX3_sizeOfPart 21 = .ok (.goto 4, 3) := by decide +kernel
theorem dX3_sizeOfPart_24 : decode cX3_sizeOfPart 24 = .ok (.iconst 0, 1) := by decide +kernel
theorem dX3_sizeOfPart_25 : decode cX3_sizeOfPart 25 = .ok (.ireturn, 1) := by decide +kernel
theorem dX3_mostOf_0 : decode cX3_mostOf 0 = .ok (.iload_n 0, 1) := by decide +kernel
theorem dX3_mostOf_1 : decode cX3_mostOf 1 = .ok (.bipush 78, 2) := by decide +kernel
theorem dX3_mostOf_3 : decode cX3_mostOf 3 = .ok (.if_icmp .ne 6, 3) := by decide +kernel
theorem dX3_mostOf_6 : decode cX3_mostOf 6 = .ok (.bipush 7, 2) := by decide +kernel
theorem dX3_mostOf_8 : decode cX3_mostOf 8 = .ok (.ireturn, 1) := by decide +kernel
theorem dX3_mostOf_9 : decode cX3_mostOf 9 = .ok (.iload_n 0, 1) := by decide +kernel
theorem dX3_mostOf_10 : decode cX3_mostOf 10 = .ok (.bipush 87, 2) := by decide +kernel
theorem dX3_mostOf_12 : decode cX3_mostOf 12 = .ok (.if_icmp .ne 7, 3) := by decide +kernel
theorem dX3_mostOf_15 : decode cX3_mostOf 15 = .ok (.iconst 4, 1) := by decide +kernel
theorem dX3_mostOf_16 : decode cX3_mostOf 16 = .ok (.goto 4, 3) := by decide +kernel
theorem dX3_mostOf_19 : decode cX3_mostOf 19 = .ok (.iconst 3, 1) := by decide +kernel
theorem dX3_mostOf_20 : decode cX3_mostOf 20 = .ok (.ireturn, 1) := by decide +kernel
theorem dX3_firstFault_0 : decode cX3_firstFault 0 = .ok (.aload_n 0, 1) := by decide +kernel
theorem dX3_firstFault_1 : decode cX3_firstFault 1 = .ok (.getfield 15, 3) := by decide +kernel
theorem dX3_firstFault_4 : decode cX3_firstFault 4 = .ok (.ifCond .eq 14, 3) := by decide +kernel
theorem dX3_firstFault_7 : decode cX3_firstFault 7 = .ok (.aload_n 0, 1) := by decide +kernel
theorem dX3_firstFault_8 : decode cX3_firstFault 8 = .ok (.getfield 9, 3) := by decide +kernel
theorem dX3_firstFault_11 : decode cX3_firstFault 11 = .ok (.iconst 0, 1) := by decide +kernel
theorem dX3_firstFault_12 : decode cX3_firstFault 12 = .ok (.iaload, 1) := by decide +kernel
theorem dX3_firstFault_13 : decode cX3_firstFault 13 = .ok (.bipush 83, 2) := by decide +kernel
theorem dX3_firstFault_15 : decode cX3_firstFault 15 = .ok (.if_icmp .eq 5, 3) := by decide +kernel
theorem dX3_firstFault_18 : decode cX3_firstFault 18 = .ok (.iconst 0, 1) := by decide +kernel
theorem dX3_firstFault_19 : decode cX3_firstFault 19 = .ok (.ireturn, 1) := by decide +kernel
theorem dX3_firstFault_20 : decode cX3_firstFault 20 = .ok (.iconst 1, 1) := by decide +kernel
theorem dX3_firstFault_21 : decode cX3_firstFault 21 = .ok (.istore_n 1, 1) := by decide +kernel
theorem dX3_firstFault_22 : decode cX3_firstFault 22 = .ok (.iconst 1, 1) := by decide +kernel
theorem dX3_firstFault_23 : decode cX3_firstFault 23 = .ok (.istore_n 2, 1) := by decide +kernel
theorem dX3_firstFault_24 : decode cX3_firstFault 24 = .ok (.iload_n 2, 1) := by decide +kernel
theorem dX3_firstFault_25 : decode cX3_firstFault 25 = .ok (.aload_n 0, 1) := by decide +kernel
theorem dX3_firstFault_26 : decode cX3_firstFault 26 = .ok (.getfield 15, 3) := by decide +kernel
theorem dX3_firstFault_29 : decode cX3_firstFault 29 = .ok (.if_icmp .ge 57, 3) := by decide +kernel
theorem dX3_firstFault_32 : decode cX3_firstFault 32 = .ok (.iload_n 2, 1) := by decide +kernel
theorem dX3_firstFault_33 : decode cX3_firstFault 33 = .ok (.iload_n 1, 1) := by decide +kernel
theorem dX3_firstFault_34 : decode cX3_firstFault 34 = .ok (.if_icmp .ne 14, 3) := by decide +kernel
theorem dX3_firstFault_37 : decode cX3_firstFault 37 = .ok (.aload_n 0, 1) := by decide +kernel
theorem dX3_firstFault_38 : decode cX3_firstFault 38 = .ok (.iload_n 2, 1) := by decide +kernel
theorem dX3_firstFault_39 : decode cX3_firstFault 39 = .ok (.invokevirtual 19, 3) := by decide +kernel
theorem dX3_firstFault_42 : decode cX3_firstFault 42 = .ok (.ifCond .ne 17, 3) := by decide +kernel
theorem dX3_firstFault_45 : decode cX3_firstFault 45 = .ok (.goto 12, 3) := by decide +kernel
theorem dX3_firstFault_48 : decode cX3_firstFault 48 = .ok (.aload_n 0, 1) := by decide +kernel
theorem dX3_firstFault_49 : decode cX3_firstFault 49 = .ok (.iload_n 1, 1) := by decide +kernel
theorem dX3_firstFault_50 : decode cX3_firstFault 50 = .ok (.iload_n 2, 1) := by decide +kernel
theorem dX3_firstFault_51 : decode cX3_firstFault 51 = .ok (.invokevirtual 23, 3) := by decide +kernel
theorem dX3_firstFault_54 : decode cX3_firstFault 54 = .ok (.ifCond .ne 5, 3) := by decide +kernel
theorem dX3_firstFault_57 : decode cX3_firstFault 57 = .ok (.iload_n 2, 1) := by decide +kernel
theorem dX3_firstFault_58 : decode cX3_firstFault 58 = .ok (.ireturn, 1) := by decide +kernel
theorem dX3_firstFault_59 : decode cX3_firstFault 59 = .ok (.iload_n 2, 1) := by decide +kernel
theorem dX3_firstFault_60 : decode cX3_firstFault 60 = .ok (.iload_n 1, 1) := by decide +kernel
theorem dX3_firstFault_61 : decode cX3_firstFault 61 = .ok (.isub, 1) := by decide +kernel
theorem dX3_firstFault_62 : decode cX3_firstFault 62 = .ok (.iconst 1, 1) := by decide +kernel
theorem dX3_firstFault_63 : decode cX3_firstFault 63 = .ok (.iadd, 1) := by decide +kernel
theorem dX3_firstFault_64 : decode cX3_firstFault 64 = .ok (.aload_n 0, 1) := by decide +kernel
theorem dX3_firstFault_65 : decode cX3_firstFault 65 = .ok (.getfield 9, 3) := by decide +kernel
theorem dX3_firstFault_68 : decode cX3_firstFault 68 = .ok (.iload_n 1, 1) := by decide +kernel
theorem dX3_firstFault_69 : decode cX3_firstFault 69 = .ok (.iaload, 1) := by decide +kernel
theorem dX3_firstFault_70 : decode cX3_firstFault 70 = .ok (.invokestatic 27, 3) := by decide +kernel
theorem dX3_firstFault_73 : decode cX3_firstFault 73 = .ok (.if_icmp .ne 7, 3) := by decide +kernel
theorem dX3_firstFault_76 : decode cX3_firstFault 76 = .ok (.iload_n 2, 1) := by decide +kernel
theorem dX3_firstFault_77 : decode cX3_firstFault 77 = .ok (.iconst 1, 1) := by decide +kernel
theorem dX3_firstFault_78 : decode cX3_firstFault 78 = .ok (.iadd, 1) := by decide +kernel
theorem dX3_firstFault_79 : decode cX3_firstFault 79 = .ok (.istore_n 1, 1) := by decide +kernel
theorem dX3_firstFault_80 : decode cX3_firstFault 80 = .ok (.iinc 2 1, 3) := by decide +kernel
theorem dX3_firstFault_83 : decode cX3_firstFault 83 = .ok (.goto (-59), 3) := by decide +kernel
theorem dX3_firstFault_86 : decode cX3_firstFault 86 = .ok (.iload_n 1, 1) := by decide +kernel
theorem dX3_firstFault_87 : decode cX3_firstFault 87 = .ok (.aload_n 0, 1) := by decide +kernel
theorem dX3_firstFault_88 : decode cX3_firstFault 88 = .ok (.getfield 15, 3) := by decide +kernel
theorem dX3_firstFault_91 : decode cX3_firstFault 91 = .ok (.if_icmp .ne 8, 3) := by decide +kernel
theorem dX3_firstFault_94 : decode cX3_firstFault 94 = .ok (.bipush (-9), 2) := by decide +kernel
theorem dX3_firstFault_96 : decode cX3_firstFault 96 = .ok (.goto 7, 3) := by decide +kernel
theorem dX3_firstFault_99 : decode cX3_firstFault 99 = .ok (.aload_n 0, 1) := by decide +kernel
theorem dX3_firstFault_100 : decode cX3_firstFault 100 = .ok (.getfield 15, 3) := by decide +kernel
theorem dX3_firstFault_103 : decode cX3_firstFault 103 = .ok (.ireturn, 1) := by decide +kernel
theorem dX3_canBegin_0 : decode cX3_canBegin 0 = .ok (.aload_n 0, 1) := by decide +kernel
theorem dX3_canBegin_1 : decode cX3_canBegin 1 = .ok (.getfield 9, 3) := by decide +kernel
theorem dX3_canBegin_4 : decode cX3_canBegin 4 = .ok (.iload_n 1, 1) := by decide +kernel
theorem dX3_canBegin_5 : decode cX3_canBegin 5 = .ok (.iaload, 1) := by decide +kernel
theorem dX3_canBegin_6 : decode cX3_canBegin 6 = .ok (.istore_n 2, 1) := by decide +kernel
theorem dX3_canBegin_7 : decode cX3_canBegin 7 = .ok (.iload_n 2, 1) := by decide +kernel
theorem dX3_canBegin_8 : decode cX3_canBegin 8 = .ok (.invokestatic 27, 3) := by decide +kernel
theorem dX3_canBegin_11 : decode cX3_canBegin 11 = .ok (.ifCond .ne 5, 3) := by decide +kernel
theorem dX3_canBegin_14 : decode cX3_canBegin 14 = .ok (.iconst 0, 1) := by decide +kernel
theorem dX3_canBegin_15 : decode cX3_canBegin 15 = .ok (.ireturn, 1) := by decide +kernel
theorem dX3_canBegin_16 : decode cX3_canBegin 16 = .ok (.iconst 0, 1) := by decide +kernel
theorem dX3_canBegin_17 : decode cX3_canBegin 17 = .ok (.istore_n 3, 1) := by decide +kernel
theorem dX3_canBegin_18 : decode cX3_canBegin 18 = .ok (.iconst 1, 1) := by decide +kernel
theorem dX3_canBegin_19 : decode cX3_canBegin 19 = .ok (.istore 4, 2) := by decide +kernel
theorem dX3_canBegin_21 : decode cX3_canBegin 21 = .ok (.iload 4, 2) := by decide +kernel
theorem dX3_canBegin_23 : decode cX3_canBegin 23 = .ok (.iload_n 1, 1) := by decide +kernel
theorem dX3_canBegin_24 : decode cX3_canBegin 24 = .ok (.if_icmp .ge 28, 3) := by decide +kernel
theorem dX3_canBegin_27 : decode cX3_canBegin 27 = .ok (.iload_n 3, 1) := by decide +kernel
theorem dX3_canBegin_28 : decode cX3_canBegin 28 = .ok (.aload_n 0, 1) := by decide +kernel
theorem dX3_canBegin_29 : decode cX3_canBegin 29 = .ok (.getfield 9, 3) := by decide +kernel
theorem dX3_canBegin_32 : decode cX3_canBegin 32 = .ok (.iload 4, 2) := by decide +kernel
theorem dX3_canBegin_34 : decode cX3_canBegin 34 = .ok (.iaload, 1) := by decide +kernel
theorem dX3_canBegin_35 : decode cX3_canBegin 35 = .ok (.iload_n 2, 1) := by decide +kernel
theorem dX3_canBegin_36 : decode cX3_canBegin 36 = .ok (.if_icmp .ne 7, 3) := by decide +kernel
theorem dX3_canBegin_39 : decode cX3_canBegin 39 = .ok (.iconst 1, 1) := by decide +kernel
theorem dX3_canBegin_40 : decode cX3_canBegin 40 = .ok (.goto 4, 3) := by decide +kernel
theorem dX3_canBegin_43 : decode cX3_canBegin 43 = .ok (.iconst 0, 1) := by decide +kernel
theorem dX3_canBegin_44 : decode cX3_canBegin 44 = .ok (.iadd, 1) := by decide +kernel
theorem dX3_canBegin_45 : decode cX3_canBegin 45 = .ok (.istore_n 3, 1) := by decide +kernel
theorem dX3_canBegin_46 : decode cX3_canBegin 46 = .ok (.iinc 4 1, 3) := by decide +kernel
theorem dX3_canBegin_49 : decode cX3_canBegin 49 = .ok (.goto (-28), 3) := by decide +kernel
theorem dX3_canBegin_52 : decode cX3_canBegin 52 = .ok (.iload_n 3, 1) := by decide +kernel
theorem dX3_canBegin_53 : decode cX3_canBegin 53 = .ok (.iload_n 2, 1) := by decide +kernel
theorem dX3_canBegin_54 : decode cX3_canBegin 54 = .ok (.invokestatic 31, 3) := by decide +kernel
theorem dX3_canBegin_57 : decode cX3_canBegin 57 = .ok (.if_icmp .ge 7, 3) := by decide +kernel
theorem dX3_canBegin_60 : decode cX3_canBegin 60 = .ok (.iconst 1, 1) := by decide +kernel
theorem dX3_canBegin_61 : decode cX3_canBegin 61 = .ok (.goto 4, 3) := by decide +kernel
theorem dX3_canBegin_64 : decode cX3_canBegin 64 = .ok (.iconst 0, 1) := by decide +kernel
theorem dX3_canBegin_65 : decode cX3_canBegin 65 = .ok (.ireturn, 1) := by decide +kernel
theorem dX3_canGoOn_0 : decode cX3_canGoOn 0 = .ok (.aload_n 0, 1) := by decide +kernel
theorem dX3_canGoOn_1 : decode cX3_canGoOn 1 = .ok (.iload_n 2, 1) := by decide +kernel
theorem dX3_canGoOn_2 : decode cX3_canGoOn 2 = .ok (.invokevirtual 34, 3) := by decide +kernel
theorem dX3_canGoOn_5 : decode cX3_canGoOn 5 = .ok (.istore_n 3, 1) := by decide +kernel
theorem dX3_canGoOn_6 : decode cX3_canGoOn 6 = .ok (.iload_n 3, 1) := by decide +kernel
theorem dX3_canGoOn_7 : decode cX3_canGoOn 7 = .ok (.ifCond .ge 5, 3) := by decide +kernel
theorem dX3_canGoOn_10 : decode cX3_canGoOn 10 = .ok (.iconst 0, 1) := by decide +kernel
theorem dX3_canGoOn_11 : decode cX3_canGoOn 11 = .ok (.ireturn, 1) := by decide +kernel
theorem dX3_canGoOn_12 : decode cX3_canGoOn 12 = .ok (.aload_n 0, 1) := by decide +kernel
theorem dX3_canGoOn_13 : decode cX3_canGoOn 13 = .ok (.getfield 9, 3) := by decide +kernel
theorem dX3_canGoOn_16 : decode cX3_canGoOn 16 = .ok (.iload_n 1, 1) := by decide +kernel
theorem dX3_canGoOn_17 : decode cX3_canGoOn 17 = .ok (.iaload, 1) := by decide +kernel
theorem dX3_canGoOn_18 : decode cX3_canGoOn 18 = .ok (.bipush 87, 2) := by decide +kernel
theorem dX3_canGoOn_20 : decode cX3_canGoOn 20 = .ok (.if_icmp .ne 7, 3) := by decide +kernel
theorem dX3_canGoOn_23 : decode cX3_canGoOn 23 = .ok (.iconst 1, 1) := by decide +kernel
theorem dX3_canGoOn_24 : decode cX3_canGoOn 24 = .ok (.goto 4, 3) := by decide +kernel
theorem dX3_canGoOn_27 : decode cX3_canGoOn 27 = .ok (.iconst 0, 1) := by decide +kernel
theorem dX3_canGoOn_28 : decode cX3_canGoOn 28 = .ok (.istore 4, 2) := by decide +kernel
theorem dX3_canGoOn_30 : decode cX3_canGoOn 30 = .ok (.iload_n 2, 1) := by decide +kernel
theorem dX3_canGoOn_31 : decode cX3_canGoOn 31 = .ok (.iload_n 1, 1) := by decide +kernel
theorem dX3_canGoOn_32 : decode cX3_canGoOn 32 = .ok (.isub, 1) := by decide +kernel
theorem dX3_canGoOn_33 : decode cX3_canGoOn 33 = .ok (.tableswitch 69 1 3 #[27, 39, 67], 27) := by decide +kernel
theorem dX3_canGoOn_60 : decode cX3_canGoOn 60 = .ok (.iload_n 3, 1) := by decide +kernel
theorem dX3_canGoOn_61 : decode cX3_canGoOn 61 = .ok (.bipush 6, 2) := by decide +kernel
theorem dX3_canGoOn_63 : decode cX3_canGoOn 63 = .ok (.if_icmp .ge 7, 3) := by decide +kernel
theorem dX3_canGoOn_66 : decode cX3_canGoOn 66 = .ok (.iconst 1, 1) := by decide +kernel
theorem dX3_canGoOn_67 : decode cX3_canGoOn 67 = .ok (.goto 4, 3) := by decide +kernel
theorem dX3_canGoOn_70 : decode cX3_canGoOn 70 = .ok (.iconst 0, 1) := by decide +kernel
theorem dX3_canGoOn_71 : decode cX3_canGoOn 71 = .ok (.ireturn, 1) := by decide +kernel
theorem dX3_canGoOn_72 : decode cX3_canGoOn 72 = .ok (.iload 4, 2) := by decide +kernel
theorem dX3_canGoOn_74 : decode cX3_canGoOn 74 = .ok (.ifCond .ne 20, 3) := by decide +kernel
theorem dX3_canGoOn_77 : decode cX3_canGoOn 77 = .ok (.iload_n 3, 1) := by decide +kernel
theorem dX3_canGoOn_78 : decode cX3_canGoOn 78 = .ok (.bipush 6, 2) := by decide +kernel
theorem dX3_canGoOn_80 : decode cX3_canGoOn 80 = .ok (.if_icmp .ge 18, 3) := by decide +kernel
theorem dX3_canGoOn_83 : decode cX3_canGoOn 83 = .ok (.iload_n 3, 1) := by decide +kernel
theorem dX3_canGoOn_84 : decode cX3_canGoOn 84 = .ok (.aload_n 0, 1) := by decide +kernel
theorem dX3_canGoOn_85 : decode cX3_canGoOn 85 = .ok (.iload_n 1, 1) := by decide +kernel
theorem dX3_canGoOn_86 : decode cX3_canGoOn 86 = .ok (.iconst 1, 1) := by decide +kernel
theorem dX3_canGoOn_87 : decode cX3_canGoOn 87 = .ok (.iadd, 1) := by decide +kernel
theorem dX3_canGoOn_88 : decode cX3_canGoOn 88 = .ok (.invokevirtual 34, 3) := by decide +kernel
theorem dX3_canGoOn_91 : decode cX3_canGoOn 91 = .ok (.if_icmp .eq 7, 3) := by decide +kernel
theorem dX3_canGoOn_94 : decode cX3_canGoOn 94 = .ok (.iconst 1, 1) := by decide +kernel
theorem dX3_canGoOn_95 : decode cX3_canGoOn 95 = .ok (.goto 4, 3) := by decide +kernel
theorem dX3_canGoOn_98 : decode cX3_canGoOn 98 = .ok (.iconst 0, 1) := by decide +kernel
theorem dX3_canGoOn_99 : decode cX3_canGoOn 99 = .ok (.ireturn, 1) := by decide +kernel
theorem dX3_canGoOn_100 : decode cX3_canGoOn 100 = .ok (.iconst 1, 1) := by decide +kernel
theorem dX3_canGoOn_101 : decode cX3_canGoOn 101 = .ok (.ireturn, 1) := by decide +kernel
theorem dX3_canGoOn_102 : decode cX3_canGoOn 102 = .ok (.iload_n 3, 1) := by decide +kernel
theorem dX3_canGoOn_103 : decode cX3_canGoOn 103 = .ok (.iconst 3, 1) := by decide +kernel
theorem dX3_canGoOn_104 : decode cX3_canGoOn 104 = .ok (.if_icmp .gt 7, 3) := by decide +kernel
theorem dX3_canGoOn_107 : decode cX3_canGoOn 107 = .ok (.iconst 1, 1) := by decide +kernel
theorem dX3_canGoOn_108 : decode cX3_canGoOn 108 = .ok (.goto 4, 3) := by decide +kernel
theorem dX3_canGoOn_111 : decode cX3_canGoOn 111 = .ok (.iconst 0, 1) := by decide +kernel
theorem dX3_canGoOn_112 : decode cX3_canGoOn 112 = .ok (.ireturn, 1) := by decide +kernel
theorem dX4_readFrom_0 : decode cX4_readFrom 0 = .ok (.aload_n 0, 1) := by decide +kernel
theorem dX4_readFrom_1 : decode cX4_readFrom 1 = .ok (.iconst 0, 1) := by decide +kernel
theorem dX4_readFrom_2 : decode cX4_readFrom 2 = .ok (.putfield 9, 3) := by decide +kernel
theorem dX4_readFrom_5 : decode cX4_readFrom 5 = .ok (.aload_n 0, 1) := by decide +kernel
theorem dX4_readFrom_6 : decode cX4_readFrom 6 = .ok (.iconst 0, 1) := by decide +kernel
theorem dX4_readFrom_7 : decode cX4_readFrom 7 = .ok (.putfield 28, 3) := by decide +kernel
theorem dX4_readFrom_10 : decode cX4_readFrom 10 = .ok (.aload_n 0, 1) := by decide +kernel
theorem dX4_readFrom_11 : decode cX4_readFrom 11 = .ok (.iconst 0, 1) := by decide +kernel
theorem dX4_readFrom_12 : decode cX4_readFrom 12 = .ok (.putfield 37, 3) := by decide +kernel
theorem dX4_readFrom_15 : decode cX4_readFrom 15 = .ok (.iconst 1, 1) := by decide +kernel
theorem dX4_readFrom_16 : decode cX4_readFrom 16 = .ok (.istore_n 2, 1) := by decide +kernel
theorem dX4_readFrom_17 : decode cX4_readFrom 17 = .ok (.iload_n 2, 1) := by decide +kernel
theorem dX4_readFrom_18 : decode cX4_readFrom 18 = .ok (.aload_n 1, 1) := by decide +kernel
theorem dX4_readFrom_19 : decode cX4_readFrom 19 = .ok (.getfield 46, 3) := by decide +kernel
theorem dX4_readFrom_22 : decode cX4_readFrom 22 = .ok (.if_icmp .ge 155, 3) := by decide +kernel
theorem dX4_readFrom_25 : decode cX4_readFrom 25 = .ok (.aload_n 1, 1) := by decide +kernel
theorem dX4_readFrom_26 : decode cX4_readFrom 26 = .ok (.getfield 51, 3) := by decide +kernel
theorem dX4_readFrom_29 : decode cX4_readFrom 29 = .ok (.iload_n 2, 1) := by decide +kernel
theorem dX4_readFrom_30 : decode cX4_readFrom 30 = .ok (.iaload, 1) := by decide +kernel
theorem dX4_readFrom_31 : decode cX4_readFrom 31 = .ok (.istore_n 3, 1) := by decide +kernel
theorem dX4_readFrom_32 : decode cX4_readFrom 32 = .ok (.iload_n 3, 1) := by decide +kernel
theorem dX4_readFrom_33 : decode cX4_readFrom 33 = .ok (.bipush 78, 2) := by decide +kernel
theorem dX4_readFrom_35 : decode cX4_readFrom 35 = .ok (.if_icmp .ne 21, 3) := by decide +kernel
theorem dX4_readFrom_38 : decode cX4_readFrom 38 = .ok (.aload_n 0, 1) := by decide +kernel
theorem dX4_readFrom_39 : decode cX4_readFrom 39 = .ok (.getfield 9, 3) := by decide +kernel
theorem dX4_readFrom_42 : decode cX4_readFrom 42 = .ok (.bipush 7, 2) := by decide +kernel
theorem dX4_readFrom_44 : decode cX4_readFrom 44 = .ok (.if_icmp .ge 12, 3) := by decide +kernel
theorem dX4_readFrom_47 : decode cX4_readFrom 47 = .ok (.aload_n 0, 1) := by decide +kernel
theorem dX4_readFrom_48 : decode cX4_readFrom 48 = .ok (.aload_n 1, 1) := by decide +kernel
theorem dX4_readFrom_49 : decode cX4_readFrom 49 = .ok (.iload_n 2, 1) := by decide +kernel
theorem dX4_readFrom_50 : decode cX4_readFrom 50 = .ok (.invokevirtual 54, 3) := by decide +kernel
theorem dX4_readFrom_53 : decode cX4_readFrom 53 = .ok (.goto 118, 3) := by decide +kernel
theorem dX4_readFrom_56 : decode cX4_readFrom 56 = .ok (.iload_n 3, 1) := by decide +kernel
theorem dX4_readFrom_57 : decode cX4_readFrom 57 = .ok (.bipush 87, 2) := by decide +kernel
theorem dX4_readFrom_59 : decode cX4_readFrom 59 = .ok (.if_icmp .ne 56, 3) := by decide +kernel
theorem dX4_readFrom_62 : decode cX4_readFrom 62 = .ok (.aload_n 0, 1) := by decide +kernel
theorem dX4_readFrom_63 : decode cX4_readFrom 63 = .ok (.getfield 28, 3) := by decide +kernel
theorem dX4_readFrom_66 : decode cX4_readFrom 66 = .ok (.iconst 4, 1) := by decide +kernel
theorem dX4_readFrom_67 : decode cX4_readFrom 67 = .ok (.if_icmp .ge 48, 3) := by decide +kernel
theorem dX4_readFrom_70 : decode cX4_readFrom 70 = .ok (.aload_n 0, 1) := by decide +kernel
theorem dX4_readFrom_71 : decode cX4_readFrom 71 = .ok (.getfield 31, 3) := by decide +kernel
theorem dX4_readFrom_74 : decode cX4_readFrom 74 = .ok (.aload_n 0, 1) := by decide +kernel
theorem dX4_readFrom_75 : decode cX4_readFrom 75 = .ok (.getfield 28, 3) := by decide +kernel
theorem dX4_readFrom_78 : decode cX4_readFrom 78 = .ok (.aload_n 1, 1) := by decide +kernel
theorem dX4_readFrom_79 : decode cX4_readFrom 79 = .ok (.iload_n 2, 1) := by decide +kernel
theorem dX4_readFrom_80 : decode cX4_readFrom 80 = .ok (.iconst 1, 1) := by decide +kernel
theorem dX4_readFrom_81 : decode cX4_readFrom 81 = .ok (.iadd, 1) := by decide +kernel
theorem dX4_readFrom_82 : decode cX4_readFrom 82 = .ok (.invokevirtual 58, 3) := by decide +kernel
theorem dX4_readFrom_85 : decode cX4_readFrom 85 = .ok (.iastore, 1) := by decide +kernel
theorem dX4_readFrom_86 : decode cX4_readFrom 86 = .ok (.aload_n 0, 1) := by decide +kernel
theorem dX4_readFrom_87 : decode cX4_readFrom 87 = .ok (.getfield 34, 3) := by decide +kernel
theorem dX4_readFrom_90 : decode cX4_readFrom 90 = .ok (.aload_n 0, 1) := by decide +kernel
theorem dX4_readFrom_91 : decode cX4_readFrom 91 = .ok (.getfield 28, 3) := by decide +kernel
theorem dX4_readFrom_94 : decode cX4_readFrom 94 = .ok (.aload_n 1, 1) := by decide +kernel
theorem dX4_readFrom_95 : decode cX4_readFrom 95 = .ok (.iload_n 2, 1) := by decide +kernel
theorem dX4_readFrom_96 : decode cX4_readFrom 96 = .ok (.iconst 2, 1) := by decide +kernel
theorem dX4_readFrom_97 : decode cX4_readFrom 97 = .ok (.iadd, 1) := by decide +kernel
theorem dX4_readFrom_98 : decode cX4_readFrom 98 = .ok (.invokevirtual 58, 3) := by decide +kernel
theorem dX4_readFrom_101 : decode cX4_readFrom 101 = .ok (.iastore, 1) := by decide +kernel
theorem dX4_readFrom_102 : decode cX4_readFrom 102 = .ok (.aload_n 0, 1) := by decide +kernel
theorem dX4_readFrom_103 : decode cX4_readFrom 103 = .ok (.dup, 1) := by decide +kernel
theorem dX4_readFrom_104 : decode cX4_readFrom 104 = .ok (.getfield 28, 3) := by decide +kernel
theorem dX4_readFrom_107 : decode cX4_readFrom 107 = .ok (.iconst 1, 1) := by decide +kernel
theorem dX4_readFrom_108 : decode cX4_readFrom 108 = .ok (.iadd, 1) := by decide +kernel
theorem dX4_readFrom_109 : decode cX4_readFrom 109 = .ok (.putfield 28, 3) := by decide +kernel
theorem dX4_readFrom_112 : decode cX4_readFrom 112 = .ok (.goto 59, 3) := by decide +kernel
theorem dX4_readFrom_115 : decode cX4_readFrom 115 = .ok (.iload_n 3, 1) := by decide +kernel
theorem dX4_readFrom_116 : decode cX4_readFrom 116 = .ok (.bipush 68, 2) := by decide +kernel
theorem dX4_readFrom_118 : decode cX4_readFrom 118 = .ok (.if_icmp .ne 53, 3) := by decide +kernel
theorem dX4_readFrom_121 : decode cX4_readFrom 121 = .ok (.aload_n 0, 1) := by decide +kernel
theorem dX4_readFrom_122 : decode cX4_readFrom 122 = .ok (.getfield 37, 3) := by decide +kernel
theorem dX4_readFrom_125 : decode cX4_readFrom 125 = .ok (.iconst 3, 1) := by decide +kernel
theorem dX4_readFrom_126 : decode cX4_readFrom 126 = .ok (.if_icmp .ge 45, 3) := by decide +kernel
theorem dX4_readFrom_129 : decode cX4_readFrom 129 = .ok (.aload_n 0, 1) := by decide +kernel
theorem dX4_readFrom_130 : decode cX4_readFrom 130 = .ok (.getfield 40, 3) := by decide +kernel
theorem dX4_readFrom_133 : decode cX4_readFrom 133 = .ok (.aload_n 0, 1) := by decide +kernel
theorem dX4_readFrom_134 : decode cX4_readFrom 134 = .ok (.getfield 37, 3) := by decide +kernel
theorem dX4_readFrom_137 : decode cX4_readFrom 137 = .ok (.aload_n 1, 1) := by decide +kernel
theorem dX4_readFrom_138 : decode cX4_readFrom 138 = .ok (.iload_n 2, 1) := by decide +kernel
theorem dX4_readFrom_139 : decode cX4_readFrom 139 = .ok (.iconst 1, 1) := by decide +kernel
theorem dX4_readFrom_140 : decode cX4_readFrom 140 = .ok (.iadd, 1) := by decide +kernel
theorem dX4_readFrom_141 : decode cX4_readFrom 141 = .ok (.invokevirtual 58, 3) := by decide +kernel
theorem dX4_readFrom_144 : decode cX4_readFrom 144 = .ok (.iastore, 1) := by decide +kernel
theorem dX4_readFrom_145 : decode cX4_readFrom 145 = .ok (.aload_n 0, 1) := by decide +kernel
theorem dX4_readFrom_146 : decode cX4_readFrom 146 = .ok (.getfield 43, 3) := by decide +kernel
theorem dX4_readFrom_149 : decode cX4_readFrom 149 = .ok (.aload_n 0, 1) := by decide +kernel
theorem dX4_readFrom_150 : decode cX4_readFrom 150 = .ok (.getfield 37, 3) := by decide +kernel
theorem dX4_readFrom_153 : decode cX4_readFrom 153 = .ok (.aload_n 1, 1) := by decide +kernel
theorem dX4_readFrom_154 : decode cX4_readFrom 154 = .ok (.iload_n 2, 1) := by decide +kernel
theorem dX4_readFrom_155 : decode cX4_readFrom 155 = .ok (.iconst 2, 1) := by decide +kernel
theorem dX4_readFrom_156 : decode cX4_readFrom 156 = .ok (.iadd, 1) := by decide +kernel
theorem dX4_readFrom_157 : decode cX4_readFrom 157 = .ok (.invokevirtual 58, 3) := by decide +kernel
theorem dX4_readFrom_160 : decode cX4_readFrom 160 = .ok (.iastore, 1) := by decide +kernel
theorem dX4_readFrom_161 : decode cX4_readFrom 161 = .ok (.aload_n 0, 1) := by decide +kernel
theorem dX4_readFrom_162 : decode cX4_readFrom 162 = .ok (.dup, 1) := by decide +kernel
theorem dX4_readFrom_163 : decode cX4_readFrom 163 = .ok (.getfield 37, 3) := by decide +kernel
theorem dX4_readFrom_166 : decode cX4_readFrom 166 = .ok (.iconst 1, 1) := by decide +kernel
theorem dX4_readFrom_167 : decode cX4_readFrom 167 = .ok (.iadd, 1) := by decide +kernel
theorem dX4_readFrom_168 : decode cX4_readFrom 168 = .ok (.putfield 37, 3) := by decide +kernel
theorem dX4_readFrom_171 : decode cX4_readFrom 171 = .ok (.iinc 2 1, 3) := by decide +kernel
theorem dX4_readFrom_174 : decode cX4_readFrom 174 = .ok (.goto (-157), 3) := by decide +kernel
theorem dX4_readFrom_177 : decode cX4_readFrom 177 = .ok (.return_, 1) := by decide +kernel
theorem dX4_addPin_0 : decode cX4_addPin 0 = .ok (.aload_n 0, 1) := by decide +kernel
theorem dX4_addPin_1 : decode cX4_addPin 1 = .ok (.getfield 15, 3) := by decide +kernel
theorem dX4_addPin_4 : decode cX4_addPin 4 = .ok (.aload_n 0, 1) := by decide +kernel
theorem dX4_addPin_5 : decode cX4_addPin 5 = .ok (.getfield 9, 3) := by decide +kernel
theorem dX4_addPin_8 : decode cX4_addPin 8 = .ok (.aload_n 1, 1) := by decide +kernel
theorem dX4_addPin_9 : decode cX4_addPin 9 = .ok (.iload_n 2, 1) := by decide +kernel
theorem dX4_addPin_10 : decode cX4_addPin 10 = .ok (.iconst 1, 1) := by decide +kernel
theorem dX4_addPin_11 : decode cX4_addPin 11 = .ok (.iadd, 1) := by decide +kernel
theorem dX4_addPin_12 : decode cX4_addPin 12 = .ok (.invokevirtual 58, 3) := by decide +kernel
theorem dX4_addPin_15 : decode cX4_addPin 15 = .ok (.iastore, 1) := by decide +kernel
theorem dX4_addPin_16 : decode cX4_addPin 16 = .ok (.aload_n 0, 1) := by decide +kernel
theorem dX4_addPin_17 : decode cX4_addPin 17 = .ok (.getfield 19, 3) := by decide +kernel
theorem dX4_addPin_20 : decode cX4_addPin 20 = .ok (.aload_n 0, 1) := by decide +kernel
theorem dX4_addPin_21 : decode cX4_addPin 21 = .ok (.getfield 9, 3) := by decide +kernel
theorem dX4_addPin_24 : decode cX4_addPin 24 = .ok (.aload_n 1, 1) := by decide +kernel
theorem dX4_addPin_25 : decode cX4_addPin 25 = .ok (.iload_n 2, 1) := by decide +kernel
theorem dX4_addPin_26 : decode cX4_addPin 26 = .ok (.iconst 2, 1) := by decide +kernel
theorem dX4_addPin_27 : decode cX4_addPin 27 = .ok (.iadd, 1) := by decide +kernel
theorem dX4_addPin_28 : decode cX4_addPin 28 = .ok (.invokevirtual 58, 3) := by decide +kernel
theorem dX4_addPin_31 : decode cX4_addPin 31 = .ok (.iastore, 1) := by decide +kernel
theorem dX4_addPin_32 : decode cX4_addPin 32 = .ok (.aload_n 0, 1) := by decide +kernel
theorem dX4_addPin_33 : decode cX4_addPin 33 = .ok (.getfield 22, 3) := by decide +kernel
theorem dX4_addPin_36 : decode cX4_addPin 36 = .ok (.aload_n 0, 1) := by decide +kernel
theorem dX4_addPin_37 : decode cX4_addPin 37 = .ok (.getfield 9, 3) := by decide +kernel
theorem dX4_addPin_40 : decode cX4_addPin 40 = .ok (.aload_n 1, 1) := by decide +kernel
theorem dX4_addPin_41 : decode cX4_addPin 41 = .ok (.iload_n 2, 1) := by decide +kernel
theorem dX4_addPin_42 : decode cX4_addPin 42 = .ok (.iconst 3, 1) := by decide +kernel
theorem dX4_addPin_43 : decode cX4_addPin 43 = .ok (.iadd, 1) := by decide +kernel
theorem dX4_addPin_44 : decode cX4_addPin 44 = .ok (.invokevirtual 58, 3) := by decide +kernel
theorem dX4_addPin_47 : decode cX4_addPin 47 = .ok (.iastore, 1) := by decide +kernel
theorem dX4_addPin_48 : decode cX4_addPin 48 = .ok (.aload_n 0, 1) := by decide +kernel
theorem dX4_addPin_49 : decode cX4_addPin 49 = .ok (.getfield 25, 3) := by decide +kernel
theorem dX4_addPin_52 : decode cX4_addPin 52 = .ok (.aload_n 0, 1) := by decide +kernel
theorem dX4_addPin_53 : decode cX4_addPin 53 = .ok (.getfield 9, 3) := by decide +kernel
theorem dX4_addPin_56 : decode cX4_addPin 56 = .ok (.aload_n 1, 1) := by decide +kernel
theorem dX4_addPin_57 : decode cX4_addPin 57 = .ok (.iload_n 2, 1) := by decide +kernel
theorem dX4_addPin_58 : decode cX4_addPin 58 = .ok (.iconst 4, 1) := by decide +kernel
theorem dX4_addPin_59 : decode cX4_addPin 59 = .ok (.iadd, 1) := by decide +kernel
theorem dX4_addPin_60 : decode cX4_addPin 60 = .ok (.invokevirtual 58, 3) := by decide +kernel
theorem dX4_addPin_63 : decode cX4_addPin 63 = .ok (.iastore, 1) := by decide +kernel
theorem dX4_addPin_64 : decode cX4_addPin 64 = .ok (.aload_n 0, 1) := by decide +kernel
theorem dX4_addPin_65 : decode cX4_addPin 65 = .ok (.dup, 1) := by decide +kernel
theorem dX4_addPin_66 : decode cX4_addPin 66 = .ok (.getfield 9, 3) := by decide +kernel
theorem dX4_addPin_69 : decode cX4_addPin 69 = .ok (.iconst 1, 1) := by decide +kernel
theorem dX4_addPin_70 : decode cX4_addPin 70 = .ok (.iadd, 1) := by decide +kernel
theorem dX4_addPin_71 : decode cX4_addPin 71 = .ok (.putfield 9, 3) := by decide +kernel
theorem dX4_addPin_74 : decode cX4_addPin 74 = .ok (.return_, 1) := by decide +kernel
theorem dX4_allPins_0 : decode cX4_allPins 0 = .ok (.iconst 1, 1) := by decide +kernel
theorem dX4_allPins_1 : decode cX4_allPins 1 = .ok (.aload_n 0, 1) := by decide +kernel
theorem dX4_allPins_2 : decode cX4_allPins 2 = .ok (.getfield 9, 3) := by decide +kernel
theorem dX4_allPins_5 : decode cX4_allPins 5 = .ok (.ishl, 1) := by decide +kernel
theorem dX4_allPins_6 : decode cX4_allPins 6 = .ok (.iconst 1, 1) := by decide +kernel
theorem dX4_allPins_7 : decode cX4_allPins 7 = .ok (.isub, 1) := by decide +kernel
theorem dX4_allPins_8 : decode cX4_allPins 8 = .ok (.ireturn, 1) := by decide +kernel
theorem dX4_holds_0 : decode cX4_holds 0 = .ok (.aload_n 0, 1) := by decide +kernel
theorem dX4_holds_1 : decode cX4_holds 1 = .ok (.getfield 25, 3) := by decide +kernel
theorem dX4_holds_4 : decode cX4_holds 4 = .ok (.iload_n 1, 1) := by decide +kernel
theorem dX4_holds_5 : decode cX4_holds 5 = .ok (.iaload, 1) := by decide +kernel
theorem dX4_holds_6 : decode cX4_holds 6 = .ok (.iconst 1, 1) := by decide +kernel
theorem dX4_holds_7 : decode cX4_holds 7 = .ok (.if_icmp .ne 12, 3) := by decide +kernel
theorem dX4_holds_10 : decode cX4_holds 10 = .ok (.aload_n 0, 1) := by decide +kernel
theorem dX4_holds_11 : decode cX4_holds 11 = .ok (.getfield 22, 3) := by decide +kernel
theorem dX4_holds_14 : decode cX4_holds 14 = .ok (.iload_n 1, 1) := by decide +kernel
theorem dX4_holds_15 : decode cX4_holds 15 = .ok (.iaload, 1) := by decide +kernel
theorem dX4_holds_16 : decode cX4_holds 16 = .ok (.iconst 3, 1) := by decide +kernel
theorem dX4_holds_17 : decode cX4_holds 17 = .ok (.iadd, 1) := by decide +kernel
theorem dX4_holds_18 : decode cX4_holds 18 = .ok (.ireturn, 1) := by decide +kernel
theorem dX4_holds_19 : decode cX4_holds 19 = .ok (.aload_n 0, 1) := by decide +kernel
theorem dX4_holds_20 : decode cX4_holds 20 = .ok (.getfield 25, 3) := by decide +kernel
theorem dX4_holds_23 : decode cX4_holds 23 = .ok (.iload_n 1, 1) := by decide +kernel
theorem dX4_holds_24 : decode cX4_holds 24 = .ok (.iaload, 1) := by decide +kernel
theorem dX4_holds_25 : decode cX4_holds 25 = .ok (.iconst 2, 1) := by decide +kernel
theorem dX4_holds_26 : decode cX4_holds 26 = .ok (.if_icmp .ne 18, 3) := by decide +kernel
theorem dX4_holds_29 : decode cX4_holds 29 = .ok (.iconst 0, 1) := by decide +kernel
theorem dX4_holds_30 : decode cX4_holds 30 = .ok (.aload_n 0, 1) := by decide +kernel
theorem dX4_holds_31 : decode cX4_holds 31 = .ok (.getfield 22, 3) := by decide +kernel
theorem dX4_holds_34 : decode cX4_holds 34 = .ok (.iload_n 1, 1) := by decide +kernel
theorem dX4_holds_35 : decode cX4_holds 35 = .ok (.iaload, 1) := by decide +kernel
theorem dX4_holds_36 : decode cX4_holds 36 = .ok (.iload_n 2, 1) := by decide +kernel
theorem dX4_holds_37 : decode cX4_holds 37 = .ok (.isub, 1) := by decide +kernel
theorem dX4_holds_38 : decode cX4_holds 38 = .ok (.invokestatic 62, 3) := by decide +kernel
theorem dX4_holds_41 : decode cX4_holds 41 = .ok (.goto 9, 3) := by decide +kernel
theorem dX4_holds_44 : decode cX4_holds 44 = .ok (.aload_n 0, 1) := by decide +kernel
theorem dX4_holds_45 : decode cX4_holds 45 = .ok (.getfield 22, 3) := by decide +kernel
theorem dX4_holds_48 : decode cX4_holds 48 = .ok (.iload_n 1, 1) := by decide +kernel
theorem dX4_holds_49 : decode cX4_holds 49 = .ok (.iaload, 1) := by decide +kernel
theorem dX4_holds_50 : decode cX4_holds 50 = .ok (.ireturn, 1) := by decide +kernel
theorem dX4_endsOf_0 : decode cX4_endsOf 0 = .ok (.iconst 1, 1) := by decide +kernel
theorem dX4_endsOf_1 : decode cX4_endsOf 1 = .ok (.aload_n 0, 1) := by decide +kernel
theorem dX4_endsOf_2 : decode cX4_endsOf 2 = .ok (.getfield 15, 3) := by decide +kernel
theorem dX4_endsOf_5 : decode cX4_endsOf 5 = .ok (.iload_n 1, 1) := by decide +kernel
theorem dX4_endsOf_6 : decode cX4_endsOf 6 = .ok (.iaload, 1) := by decide +kernel
theorem dX4_endsOf_7 : decode cX4_endsOf 7 = .ok (.ishl, 1) := by decide +kernel
theorem dX4_endsOf_8 : decode cX4_endsOf 8 = .ok (.iconst 1, 1) := by decide +kernel
theorem dX4_endsOf_9 : decode cX4_endsOf 9 = .ok (.aload_n 0, 1) := by decide +kernel
theorem dX4_endsOf_10 : decode cX4_endsOf 10 = .ok (.getfield 19, 3) := by decide +kernel
theorem dX4_endsOf_13 : decode cX4_endsOf 13 = .ok (.iload_n 1, 1) := by decide +kernel
theorem dX4_endsOf_14 : decode cX4_endsOf 14 = .ok (.iaload, 1) := by decide +kernel
theorem dX4_endsOf_15 : decode cX4_endsOf 15 = .ok (.ishl, 1) := by decide +kernel
theorem dX4_endsOf_16 : decode cX4_endsOf 16 = .ok (.ior, 1) := by decide +kernel
theorem dX4_endsOf_17 : decode cX4_endsOf 17 = .ok (.ireturn, 1) := by decide +kernel
theorem dX4_reach_0 : decode cX4_reach 0 = .ok (.iconst 1, 1) := by decide +kernel
theorem dX4_reach_1 : decode cX4_reach 1 = .ok (.iload_n 1, 1) := by decide +kernel
theorem dX4_reach_2 : decode cX4_reach 2 = .ok (.ishl, 1) := by decide +kernel
theorem dX4_reach_3 : decode cX4_reach 3 = .ok (.istore_n 3, 1) := by decide +kernel
theorem dX4_reach_4 : decode cX4_reach 4 = .ok (.iconst 1, 1) := by decide +kernel
theorem dX4_reach_5 : decode cX4_reach 5 = .ok (.istore 4, 2) := by decide +kernel
theorem dX4_reach_7 : decode cX4_reach 7 = .ok (.iload 4, 2) := by decide +kernel
theorem dX4_reach_9 : decode cX4_reach 9 = .ok (.bipush 6, 2) := by decide +kernel
theorem dX4_reach_11 : decode cX4_reach 11 = .ok (.if_icmp .ge 56, 3) := by decide +kernel
theorem dX4_reach_14 : decode cX4_reach 14 = .ok (.iconst 0, 1) := by decide +kernel
theorem dX4_reach_15 : decode cX4_reach 15 = .ok (.istore 5, 2) := by decide +kernel
theorem dX4_reach_17 : decode cX4_reach 17 = .ok (.iload 5, 2) := by decide +kernel
theorem dX4_reach_19 : decode cX4_reach 19 = .ok (.aload_n 0, 1) := by decide +kernel
theorem dX4_reach_20 : decode cX4_reach 20 = .ok (.getfield 9, 3) := by decide +kernel
theorem dX4_reach_23 : decode cX4_reach 23 = .ok (.if_icmp .ge 38, 3) := by decide +kernel
theorem dX4_reach_26 : decode cX4_reach 26 = .ok (.iload_n 2, 1) := by decide +kernel
theorem dX4_reach_27 : decode cX4_reach 27 = .ok (.iconst 1, 1) := by decide +kernel
theorem dX4_reach_28 : decode cX4_reach 28 = .ok (.iload 5, 2) := by decide +kernel
theorem dX4_reach_30 : decode cX4_reach 30 = .ok (.ishl, 1) := by decide +kernel
theorem dX4_reach_31 : decode cX4_reach 31 = .ok (.iand, 1) := by decide +kernel
theorem dX4_reach_32 : decode cX4_reach 32 = .ok (.ifCond .ne 23, 3) := by decide +kernel
theorem dX4_reach_35 : decode cX4_reach 35 = .ok (.iload_n 3, 1) := by decide +kernel
theorem dX4_reach_36 : decode cX4_reach 36 = .ok (.aload_n 0, 1) := by decide +kernel
theorem dX4_reach_37 : decode cX4_reach 37 = .ok (.iload 5, 2) := by decide +kernel
theorem dX4_reach_39 : decode cX4_reach 39 = .ok (.invokevirtual 68, 3) := by decide +kernel
theorem dX4_reach_42 : decode cX4_reach 42 = .ok (.iand, 1) := by decide +kernel
theorem dX4_reach_43 : decode cX4_reach 43 = .ok (.ifCond .eq 12, 3) := by decide +kernel
theorem dX4_reach_46 : decode cX4_reach 46 = .ok (.iload_n 3, 1) := by decide +kernel
theorem dX4_reach_47 : decode cX4_reach 47 = .ok (.aload_n 0, 1) := by decide +kernel
theorem dX4_reach_48 : decode cX4_reach 48 = .ok (.iload 5, 2) := by decide +kernel
theorem dX4_reach_50 : decode cX4_reach 50 = .ok (.invokevirtual 68, 3) := by decide +kernel
theorem dX4_reach_53 : decode cX4_reach 53 = .ok (.ior, 1) := by decide +kernel
theorem dX4_reach_54 : decode cX4_reach 54 = .ok (.istore_n 3, 1) := by decide +kernel
theorem dX4_reach_55 : decode cX4_reach 55 = .ok (.iinc 5 1, 3) := by decide +kernel
theorem dX4_reach_58 : decode cX4_reach 58 = .ok (.goto (-41), 3) := by decide +kernel
theorem dX4_reach_61 : decode cX4_reach 61 = .ok (.iinc 4 1, 3) := by decide +kernel
theorem dX4_reach_64 : decode cX4_reach 64 = .ok (.goto (-57), 3) := by decide +kernel
theorem dX4_reach_67 : decode cX4_reach 67 = .ok (.iload_n 3, 1) := by decide +kernel
theorem dX4_reach_68 : decode cX4_reach 68 = .ok (.ireturn, 1) := by decide +kernel
theorem dX4_areTogether_0 : decode cX4_areTogether 0 = .ok (.aload_n 0, 1) := by decide +kernel
theorem dX4_areTogether_1 : decode cX4_areTogether 1 = .ok (.iload_n 1, 1) := by decide +kernel
theorem dX4_areTogether_2 : decode cX4_areTogether 2 = .ok (.iload_n 3, 1) := by decide +kernel
theorem dX4_areTogether_3 : decode cX4_areTogether 3 = .ok (.invokevirtual 71, 3) := by decide +kernel
theorem dX4_areTogether_6 : decode cX4_areTogether 6 = .ok (.iconst 1, 1) := by decide +kernel
theorem dX4_areTogether_7 : decode cX4_areTogether 7 = .ok (.iload_n 2, 1) := by decide +kernel
theorem dX4_areTogether_8 : decode cX4_areTogether 8 = .ok (.ishl, 1) := by decide +kernel
theorem dX4_areTogether_9 : decode cX4_areTogether 9 = .ok (.iand, 1) := by decide +kernel
theorem dX4_areTogether_10 : decode cX4_areTogether 10 = .ok (.ifCond .eq 7, 3) := by decide +kernel
theorem dX4_areTogether_13 : decode cX4_areTogether 13 = .ok (.iconst 1, 1) := by decide +kernel
theorem dX4_areTogether_14 : decode cX4_areTogether 14 = .ok (.goto 4, 3) := by decide +kernel
theorem dX4_areTogether_17 : decode cX4_areTogether 17 = .ok (.iconst 0, 1) := by decide +kernel
theorem dX4_areTogether_18 : decode cX4_areTogether 18 = .ok (.ireturn, 1) := by decide +kernel
theorem dX4_pairsTogether_0 : decode cX4_pairsTogether 0 = .ok (.iconst 0, 1) := by decide +kernel
theorem dX4_pairsTogether_1 : decode cX4_pairsTogether 1 = .ok (.istore_n 2, 1) := by decide +kernel
theorem dX4_pairsTogether_2 : decode cX4_pairsTogether 2 = .ok (.iconst 0, 1) := by decide +kernel
theorem dX4_pairsTogether_3 : decode cX4_pairsTogether 3 = .ok (.istore_n 3, 1) := by decide +kernel
theorem dX4_pairsTogether_4 : decode cX4_pairsTogether 4 = .ok (.iload_n 3, 1) := by decide +kernel
theorem dX4_pairsTogether_5 : decode cX4_pairsTogether 5 = .ok (.bipush 6, 2) := by decide +kernel
theorem dX4_pairsTogether_7 : decode cX4_pairsTogether 7 = .ok (.if_icmp .ge 23, 3) := by decide +kernel
theorem dX4_pairsTogether_10 : decode cX4_pairsTogether 10 = .ok (.iload_n 2, 1) := by decide +kernel
theorem dX4_pairsTogether_11 : decode cX4_pairsTogether 11 = .ok (.aload_n 0, 1) := by decide +kernel
theorem dX4_pairsTogether_12 : decode cX4_pairsTogether 12 = .ok (.iload_n 3, 1) := by decide +kernel
theorem dX4_pairsTogether_13 : decode cX4_pairsTogether 13 = .ok (.iload_n 1, 1) := by decide +kernel
theorem dX4_pairsTogether_14 : decode cX4_pairsTogether 14 = .ok (.invokevirtual 71, 3) := by decide +kernel
theorem dX4_pairsTogether_17 : decode cX4_pairsTogether 17 = .ok (.invokestatic 74, 3) := by decide +kernel
theorem dX4_pairsTogether_20 : decode cX4_pairsTogether 20 = .ok (.iconst 1, 1) := by decide +kernel
theorem dX4_pairsTogether_21 : decode cX4_pairsTogether 21 = .ok (.isub, 1) := by decide +kernel
theorem dX4_pairsTogether_22 : decode cX4_pairsTogether 22 = .ok (.iadd, 1) := by decide +kernel
theorem dX4_pairsTogether_23 : decode cX4_pairsTogether 23 = .ok (.istore_n 2, 1) := by decide +kernel
theorem dX4_pairsTogether_24 : decode cX4_pairsTogether 24 = .ok (.iinc 3 1, 3) := by decide +kernel
theorem dX4_pairsTogether_27 : decode cX4_pairsTogether 27 = .ok (.goto (-23), 3) := by decide +kernel
theorem dX4_pairsTogether_30 : decode cX4_pairsTogether 30 = .ok (.iload_n 2, 1) := by decide +kernel
theorem dX4_pairsTogether_31 : decode cX4_pairsTogether 31 = .ok (.iconst 2, 1) := by decide +kernel
theorem dX4_pairsTogether_32 : decode cX4_pairsTogether 32 = .ok (.idiv, 1) := by decide +kernel
theorem dX4_pairsTogether_33 : decode cX4_pairsTogether 33 = .ok (.ireturn, 1) := by decide +kernel
theorem dX4_doable_0 : decode cX4_doable 0 = .ok (.iconst 0, 1) := by decide +kernel
theorem dX4_doable_1 : decode cX4_doable 1 = .ok (.istore_n 2, 1) := by decide +kernel
theorem dX4_doable_2 : decode cX4_doable 2 = .ok (.iconst 0, 1) := by decide +kernel
theorem dX4_doable_3 : decode cX4_doable 3 = .ok (.istore_n 3, 1) := by decide +kernel
theorem dX4_doable_4 : decode cX4_doable 4 = .ok (.iload_n 3, 1) := by decide +kernel
theorem dX4_doable_5 : decode cX4_doable 5 = .ok (.aload_n 0, 1) := by decide +kernel
theorem dX4_doable_6 : decode cX4_doable 6 = .ok (.getfield 37, 3) := by decide +kernel
theorem dX4_doable_9 : decode cX4_doable 9 = .ok (.if_icmp .ge 35, 3) := by decide +kernel
theorem dX4_doable_12 : decode cX4_doable 12 = .ok (.aload_n 0, 1) := by decide +kernel
theorem dX4_doable_13 : decode cX4_doable 13 = .ok (.aload_n 0, 1) := by decide +kernel
theorem dX4_doable_14 : decode cX4_doable 14 = .ok (.getfield 40, 3) := by decide +kernel
theorem dX4_doable_17 : decode cX4_doable 17 = .ok (.iload_n 3, 1) := by decide +kernel
theorem dX4_doable_18 : decode cX4_doable 18 = .ok (.iaload, 1) := by decide +kernel
theorem dX4_doable_19 : decode cX4_doable 19 = .ok (.aload_n 0, 1) := by decide +kernel
theorem dX4_doable_20 : decode cX4_doable 20 = .ok (.getfield 43, 3) := by decide +kernel
theorem dX4_doable_23 : decode cX4_doable 23 = .ok (.iload_n 3, 1) := by decide +kernel
theorem dX4_doable_24 : decode cX4_doable 24 = .ok (.iaload, 1) := by decide +kernel
theorem dX4_doable_25 : decode cX4_doable 25 = .ok (.iload_n 1, 1) := by decide +kernel
theorem dX4_doable_26 : decode cX4_doable 26 = .ok (.invokevirtual 79, 3) := by decide +kernel
theorem dX4_doable_29 : decode cX4_doable 29 = .ok (.ifCond .ne 9, 3) := by decide +kernel
theorem dX4_doable_32 : decode cX4_doable 32 = .ok (.iload_n 2, 1) := by decide +kernel
theorem dX4_doable_33 : decode cX4_doable 33 = .ok (.iconst 1, 1) := by decide +kernel
theorem dX4_doable_34 : decode cX4_doable 34 = .ok (.iload_n 3, 1) := by decide +kernel
theorem dX4_doable_35 : decode cX4_doable 35 = .ok (.ishl, 1) := by decide +kernel
theorem dX4_doable_36 : decode cX4_doable 36 = .ok (.ior, 1) := by decide +kernel
theorem dX4_doable_37 : decode cX4_doable 37 = .ok (.istore_n 2, 1) := by decide +kernel
theorem dX4_doable_38 : decode cX4_doable 38 = .ok (.iinc 3 1, 3) := by decide +kernel
theorem dX4_doable_41 : decode cX4_doable 41 = .ok (.goto (-37), 3) := by decide +kernel
theorem dX4_doable_44 : decode cX4_doable 44 = .ok (.iload_n 2, 1) := by decide +kernel
theorem dX4_doable_45 : decode cX4_doable 45 = .ok (.ireturn, 1) := by decide +kernel
theorem dX5_add_0 : decode cX5_add 0 = .ok (.aload_n 0, 1) := by decide +kernel
theorem dX5_add_1 : decode cX5_add 1 = .ok (.getfield 19, 3) := by decide +kernel
theorem dX5_add_4 : decode cX5_add 4 = .ok (.ifCond .lt 42, 3) := by decide +kernel
theorem dX5_add_7 : decode cX5_add 7 = .ok (.aload_n 0, 1) := by decide +kernel
theorem dX5_add_8 : decode cX5_add 8 = .ok (.getfield 19, 3) := by decide +kernel
theorem dX5_add_11 : decode cX5_add 11 = .ok (.bipush 6, 2) := by decide +kernel
theorem dX5_add_13 : decode cX5_add 13 = .ok (.if_icmp .ge 33, 3) := by decide +kernel
theorem dX5_add_16 : decode cX5_add 16 = .ok (.aload_n 0, 1) := by decide +kernel
theorem dX5_add_17 : decode cX5_add 17 = .ok (.getfield 9, 3) := by decide +kernel
theorem dX5_add_20 : decode cX5_add 20 = .ok (.aload_n 0, 1) := by decide +kernel
theorem dX5_add_21 : decode cX5_add 21 = .ok (.getfield 19, 3) := by decide +kernel
theorem dX5_add_24 : decode cX5_add 24 = .ok (.iload_n 1, 1) := by decide +kernel
theorem dX5_add_25 : decode cX5_add 25 = .ok (.iastore, 1) := by decide +kernel
theorem dX5_add_26 : decode cX5_add 26 = .ok (.aload_n 0, 1) := by decide +kernel
theorem dX5_add_27 : decode cX5_add 27 = .ok (.getfield 15, 3) := by decide +kernel
theorem dX5_add_30 : decode cX5_add 30 = .ok (.aload_n 0, 1) := by decide +kernel
theorem dX5_add_31 : decode cX5_add 31 = .ok (.getfield 19, 3) := by decide +kernel
theorem dX5_add_34 : decode cX5_add 34 = .ok (.iload_n 2, 1) := by decide +kernel
theorem dX5_add_35 : decode cX5_add 35 = .ok (.bastore, 1) := by decide +kernel
theorem dX5_add_36 : decode cX5_add 36 = .ok (.aload_n 0, 1) := by decide +kernel
theorem dX5_add_37 : decode cX5_add 37 = .ok (.dup, 1) := by decide +kernel
theorem dX5_add_38 : decode cX5_add 38 = .ok (.getfield 19, 3) := by decide +kernel
theorem dX5_add_41 : decode cX5_add 41 = .ok (.iconst 1, 1) := by decide +kernel
theorem dX5_add_42 : decode cX5_add 42 = .ok (.iadd, 1) := by decide +kernel
theorem dX5_add_43 : decode cX5_add 43 = .ok (.putfield 19, 3) := by decide +kernel
theorem dX5_add_46 : decode cX5_add 46 = .ok (.return_, 1) := by decide +kernel
theorem dX5_agreeWith_0 : decode cX5_agreeWith 0 = .ok (.iload_n 1, 1) := by decide +kernel
theorem dX5_agreeWith_1 : decode cX5_agreeWith 1 = .ok (.iconst 1, 1) := by decide +kernel
theorem dX5_agreeWith_2 : decode cX5_agreeWith 2 = .ok (.if_icmp .ne 9, 3) := by decide +kernel
theorem dX5_agreeWith_5 : decode cX5_agreeWith 5 = .ok (.iload_n 2, 1) := by decide +kernel
theorem dX5_agreeWith_6 : decode cX5_agreeWith 6 = .ok (.iconst 3, 1) := by decide +kernel
theorem dX5_agreeWith_7 : decode cX5_agreeWith 7 = .ok (.iadd, 1) := by decide +kernel
theorem dX5_agreeWith_8 : decode cX5_agreeWith 8 = .ok (.goto 4, 3) := by decide +kernel
theorem dX5_agreeWith_11 : decode cX5_agreeWith 11 = .ok (.iload_n 2, 1) := by decide +kernel
theorem dX5_agreeWith_12 : decode cX5_agreeWith 12 = .ok (.istore_n 3, 1) := by decide +kernel
theorem dX5_agreeWith_13 : decode cX5_agreeWith 13 = .ok (.iconst 0, 1) := by decide +kernel
theorem dX5_agreeWith_14 : decode cX5_agreeWith 14 = .ok (.istore 4, 2) := by decide +kernel
theorem dX5_agreeWith_16 : decode cX5_agreeWith 16 = .ok (.iload 4, 2) := by decide +kernel
theorem dX5_agreeWith_18 : decode cX5_agreeWith 18 = .ok (.aload_n 0, 1) := by decide +kernel
theorem dX5_agreeWith_19 : decode cX5_agreeWith 19 = .ok (.getfield 19, 3) := by decide +kernel
theorem dX5_agreeWith_22 : decode cX5_agreeWith 22 = .ok (.if_icmp .ge 37, 3) := by decide +kernel
theorem dX5_agreeWith_25 : decode cX5_agreeWith 25 = .ok (.aload_n 0, 1) := by decide +kernel
theorem dX5_agreeWith_26 : decode cX5_agreeWith 26 = .ok (.getfield 9, 3) := by decide +kernel
theorem dX5_agreeWith_29 : decode cX5_agreeWith 29 = .ok (.iload 4, 2) := by decide +kernel
theorem dX5_agreeWith_31 : decode cX5_agreeWith 31 = .ok (.iaload, 1) := by decide +kernel
theorem dX5_agreeWith_32 : decode cX5_agreeWith 32 = .ok (.iload_n 3, 1) := by decide +kernel
theorem dX5_agreeWith_33 : decode cX5_agreeWith 33 = .ok (.if_icmp .le 7, 3) := by decide +kernel
theorem dX5_agreeWith_36 : decode cX5_agreeWith 36 = .ok (.iconst 1, 1) := by decide +kernel
theorem dX5_agreeWith_37 : decode cX5_agreeWith 37 = .ok (.goto 4, 3) := by decide +kernel
theorem dX5_agreeWith_40 : decode cX5_agreeWith 40 = .ok (.iconst 0, 1) := by decide +kernel
theorem dX5_agreeWith_41 : decode cX5_agreeWith 41 = .ok (.aload_n 0, 1) := by decide +kernel
theorem dX5_agreeWith_42 : decode cX5_agreeWith 42 = .ok (.getfield 15, 3) := by decide +kernel
theorem dX5_agreeWith_45 : decode cX5_agreeWith 45 = .ok (.iload 4, 2) := by decide +kernel
theorem dX5_agreeWith_47 : decode cX5_agreeWith 47 = .ok (.baload, 1) := by decide +kernel
theorem dX5_agreeWith_48 : decode cX5_agreeWith 48 = .ok (.if_icmp .eq 5, 3) := by decide +kernel
theorem dX5_agreeWith_51 : decode cX5_agreeWith 51 = .ok (.iconst 0, 1) := by decide +kernel
theorem dX5_agreeWith_52 : decode cX5_agreeWith 52 = .ok (.ireturn, 1) := by decide +kernel
theorem dX5_agreeWith_53 : decode cX5_agreeWith 53 = .ok (.iinc 4 1, 3) := by decide +kernel
theorem dX5_agreeWith_56 : decode cX5_agreeWith 56 = .ok (.goto (-40), 3) := by decide +kernel
theorem dX5_agreeWith_59 : decode cX5_agreeWith 59 = .ok (.iconst 1, 1) := by decide +kernel
theorem dX5_agreeWith_60 : decode cX5_agreeWith 60 = .ok (.ireturn, 1) := by decide +kernel
theorem dJ6_bitCount_0f7a4_0 : decode cJ6_bitCount_0f7a4 0 = .ok (.iload_n 0, 1) := by decide +kernel
theorem dJ6_bitCount_0f7a4_1 : decode cJ6_bitCount_0f7a4 1 = .ok (.iload_n 0, 1) := by decide +kernel
theorem dJ6_bitCount_0f7a4_2 : decode cJ6_bitCount_0f7a4 2 = .ok (.iconst 1, 1) := by decide +kernel
theorem dJ6_bitCount_0f7a4_3 : decode cJ6_bitCount_0f7a4 3 = .ok (.iushr, 1) := by decide +kernel
theorem dJ6_bitCount_0f7a4_4 : decode cJ6_bitCount_0f7a4 4 = .ok (.ldc_w 265, 3) := by decide +kernel
theorem dJ6_bitCount_0f7a4_7 : decode cJ6_bitCount_0f7a4 7 = .ok (.iand, 1) := by decide +kernel
theorem dJ6_bitCount_0f7a4_8 : decode cJ6_bitCount_0f7a4 8 = .ok (.isub, 1) := by decide +kernel
theorem dJ6_bitCount_0f7a4_9 : decode cJ6_bitCount_0f7a4 9 = .ok (.istore_n 0, 1) := by decide +kernel
theorem dJ6_bitCount_0f7a4_10 : decode cJ6_bitCount_0f7a4 10 = .ok (.iload_n 0, 1) := by decide +kernel
theorem dJ6_bitCount_0f7a4_11 : decode cJ6_bitCount_0f7a4 11 = .ok (.ldc_w 266, 3) := by decide +kernel
theorem dJ6_bitCount_0f7a4_14 : decode cJ6_bitCount_0f7a4 14 = .ok (.iand, 1) := by decide +kernel
theorem dJ6_bitCount_0f7a4_15 : decode cJ6_bitCount_0f7a4 15 = .ok (.iload_n 0, 1) := by decide +kernel
theorem dJ6_bitCount_0f7a4_16 : decode cJ6_bitCount_0f7a4 16 = .ok (.iconst 2, 1) := by decide +kernel
theorem dJ6_bitCount_0f7a4_17 : decode cJ6_bitCount_0f7a4 17 = .ok (.iushr, 1) := by decide +kernel
theorem dJ6_bitCount_0f7a4_18 : decode cJ6_bitCount_0f7a4 18 = .ok (.ldc_w 266, 3) := by decide +kernel
theorem dJ6_bitCount_0f7a4_21 : decode cJ6_bitCount_0f7a4 21 = .ok (.iand, 1) := by decide +kernel
theorem dJ6_bitCount_0f7a4_22 : decode cJ6_bitCount_0f7a4 22 = .ok (.iadd, 1) := by decide +kernel
theorem dJ6_bitCount_0f7a4_23 : decode cJ6_bitCount_0f7a4 23 = .ok (.istore_n 0, 1) := by decide +kernel
theorem dJ6_bitCount_0f7a4_24 : decode cJ6_bitCount_0f7a4 24 = .ok (.iload_n 0, 1) := by decide +kernel
theorem dJ6_bitCount_0f7a4_25 : decode cJ6_bitCount_0f7a4 25 = .ok (.iload_n 0, 1) := by decide +kernel
theorem dJ6_bitCount_0f7a4_26 : decode cJ6_bitCount_0f7a4 26 = .ok (.iconst 4, 1) := by decide +kernel
theorem dJ6_bitCount_0f7a4_27 : decode cJ6_bitCount_0f7a4 27 = .ok (.iushr, 1) := by decide +kernel
theorem dJ6_bitCount_0f7a4_28 : decode cJ6_bitCount_0f7a4 28 = .ok (.iadd, 1) := by decide +kernel
theorem dJ6_bitCount_0f7a4_29 : decode cJ6_bitCount_0f7a4 29 = .ok (.ldc_w 267, 3) := by decide +kernel
theorem dJ6_bitCount_0f7a4_32 : decode cJ6_bitCount_0f7a4 32 = .ok (.iand, 1) := by decide +kernel
theorem dJ6_bitCount_0f7a4_33 : decode cJ6_bitCount_0f7a4 33 = .ok (.istore_n 0, 1) := by decide +kernel
theorem dJ6_bitCount_0f7a4_34 : decode cJ6_bitCount_0f7a4 34 = .ok (.iload_n 0, 1) := by decide +kernel
theorem dJ6_bitCount_0f7a4_35 : decode cJ6_bitCount_0f7a4 35 = .ok (.iload_n 0, 1) := by decide +kernel
theorem dJ6_bitCount_0f7a4_36 : decode cJ6_bitCount_0f7a4 36 = .ok (.bipush 8, 2) := by decide +kernel
theorem dJ6_bitCount_0f7a4_38 : decode cJ6_bitCount_0f7a4 38 = .ok (.iushr, 1) := by decide +kernel
theorem dJ6_bitCount_0f7a4_39 : decode cJ6_bitCount_0f7a4 39 = .ok (.iadd, 1) := by decide +kernel
theorem dJ6_bitCount_0f7a4_40 : decode cJ6_bitCount_0f7a4 40 = .ok (.istore_n 0, 1) := by decide +kernel
theorem dJ6_bitCount_0f7a4_41 : decode cJ6_bitCount_0f7a4 41 = .ok (.iload_n 0, 1) := by decide +kernel
theorem dJ6_bitCount_0f7a4_42 : decode cJ6_bitCount_0f7a4 42 = .ok (.iload_n 0, 1) := by decide +kernel
theorem dJ6_bitCount_0f7a4_43 : decode cJ6_bitCount_0f7a4 43 = .ok (.bipush 16, 2) := by decide +kernel
theorem dJ6_bitCount_0f7a4_45 : decode cJ6_bitCount_0f7a4 45 = .ok (.iushr, 1) := by decide +kernel
theorem dJ6_bitCount_0f7a4_46 : decode cJ6_bitCount_0f7a4 46 = .ok (.iadd, 1) := by decide +kernel
theorem dJ6_bitCount_0f7a4_47 : decode cJ6_bitCount_0f7a4 47 = .ok (.istore_n 0, 1) := by decide +kernel
theorem dJ6_bitCount_0f7a4_48 : decode cJ6_bitCount_0f7a4 48 = .ok (.iload_n 0, 1) := by decide +kernel
theorem dJ6_bitCount_0f7a4_49 : decode cJ6_bitCount_0f7a4 49 = .ok (.bipush 63, 2) := by decide +kernel
theorem dJ6_bitCount_0f7a4_51 : decode cJ6_bitCount_0f7a4 51 = .ok (.iand, 1) := by decide +kernel
theorem dJ6_bitCount_0f7a4_52 : decode cJ6_bitCount_0f7a4 52 = .ok (.ireturn, 1) := by decide +kernel
theorem dJ9_floorMod_7cf53_0 : decode cJ9_floorMod_7cf53 0 = .ok (.iload_n 0, 1) := by decide +kernel
theorem dJ9_floorMod_7cf53_1 : decode cJ9_floorMod_7cf53 1 = .ok (.iload_n 1, 1) := by decide +kernel
theorem dJ9_floorMod_7cf53_2 : decode cJ9_floorMod_7cf53 2 = .ok (.irem, 1) := by decide +kernel
theorem dJ9_floorMod_7cf53_3 : decode cJ9_floorMod_7cf53 3 = .ok (.istore_n 2, 1) := by decide +kernel
theorem dJ9_floorMod_7cf53_4 : decode cJ9_floorMod_7cf53 4 = .ok (.iload_n 0, 1) := by decide +kernel
theorem dJ9_floorMod_7cf53_5 : decode cJ9_floorMod_7cf53 5 = .ok (.iload_n 1, 1) := by decide +kernel
theorem dJ9_floorMod_7cf53_6 : decode cJ9_floorMod_7cf53 6 = .ok (.ixor, 1) := by decide +kernel
theorem dJ9_floorMod_7cf53_7 : decode cJ9_floorMod_7cf53 7 = .ok (.ifCond .ge 11, 3) := by decide +kernel
theorem dJ9_floorMod_7cf53_10 : decode cJ9_floorMod_7cf53 10 = .ok (.iload_n 2, 1) := by decide +kernel
theorem dJ9_floorMod_7cf53_11 : decode cJ9_floorMod_7cf53 11 = .ok (.ifCond .eq 7, 3) := by decide +kernel
theorem dJ9_floorMod_7cf53_14 : decode cJ9_floorMod_7cf53 14 = .ok (.iload_n 2, 1) := by decide +kernel
theorem dJ9_floorMod_7cf53_15 : decode cJ9_floorMod_7cf53 15 = .ok (.iload_n 1, 1) := by decide +kernel
theorem dJ9_floorMod_7cf53_16 : decode cJ9_floorMod_7cf53 16 = .ok (.iadd, 1) := by decide +kernel
theorem dJ9_floorMod_7cf53_17 : decode cJ9_floorMod_7cf53 17 = .ok (.ireturn, 1) := by decide +kernel
theorem dJ9_floorMod_7cf53_18 : decode cJ9_floorMod_7cf53 18 = .ok (.iload_n 2, 1) := by decide +kernel
theorem dJ9_floorMod_7cf53_19 : decode cJ9_floorMod_7cf53 19 = .ok (.ireturn, 1) := by decide +kernel
theorem dJ9_max_7cf53_0 : decode cJ9_max_7cf53 0 = .ok (.iload_n 0, 1) := by decide +kernel
theorem dJ9_max_7cf53_1 : decode cJ9_max_7cf53 1 = .ok (.iload_n 1, 1) := by decide +kernel
theorem dJ9_max_7cf53_2 : decode cJ9_max_7cf53 2 = .ok (.if_icmp .lt 7, 3) := by decide +kernel
theorem dJ9_max_7cf53_5 : decode cJ9_max_7cf53 5 = .ok (.iload_n 0, 1) := by decide +kernel
theorem dJ9_max_7cf53_6 : decode cJ9_max_7cf53 6 = .ok (.goto 4, 3) := by decide +kernel
theorem dJ9_max_7cf53_9 : decode cJ9_max_7cf53 9 = .ok (.iload_n 1, 1) := by decide +kernel
theorem dJ9_max_7cf53_10 : decode cJ9_max_7cf53 10 = .ok (.ireturn, 1) := by decide +kernel
theorem dJ9_max_f86c9_0 : decode cJ9_max_f86c9 0 = .ok (.lload_n 0, 1) := by decide +kernel
theorem dJ9_max_f86c9_1 : decode cJ9_max_f86c9 1 = .ok (.lload_n 2, 1) := by decide +kernel
theorem dJ9_max_f86c9_2 : decode cJ9_max_f86c9 2 = .ok (.lcmp, 1) := by decide +kernel
theorem dJ9_max_f86c9_3 : decode cJ9_max_f86c9 3 = .ok (.ifCond .lt 7, 3) := by decide +kernel
theorem dJ9_max_f86c9_6 : decode cJ9_max_f86c9 6 = .ok (.lload_n 0, 1) := by decide +kernel
theorem dJ9_max_f86c9_7 : decode cJ9_max_f86c9 7 = .ok (.goto 4, 3) := by decide +kernel
theorem dJ9_max_f86c9_10 : decode cJ9_max_f86c9 10 = .ok (.lload_n 2, 1) := by decide +kernel
theorem dJ9_max_f86c9_11 : decode cJ9_max_f86c9 11 = .ok (.lreturn, 1) := by decide +kernel
theorem dJ9_min_7cf53_0 : decode cJ9_min_7cf53 0 = .ok (.iload_n 0, 1) := by decide +kernel
theorem dJ9_min_7cf53_1 : decode cJ9_min_7cf53 1 = .ok (.iload_n 1, 1) := by decide +kernel
theorem dJ9_min_7cf53_2 : decode cJ9_min_7cf53 2 = .ok (.if_icmp .gt 7, 3) := by decide +kernel
theorem dJ9_min_7cf53_5 : decode cJ9_min_7cf53 5 = .ok (.iload_n 0, 1) := by decide +kernel
theorem dJ9_min_7cf53_6 : decode cJ9_min_7cf53 6 = .ok (.goto 4, 3) := by decide +kernel
theorem dJ9_min_7cf53_9 : decode cJ9_min_7cf53 9 = .ok (.iload_n 1, 1) := by decide +kernel
theorem dJ9_min_7cf53_10 : decode cJ9_min_7cf53 10 = .ok (.ireturn, 1) := by decide +kernel
