theorem dX6_write_0 : decode cX6_write 0 = .ok (.iload_n 1, 1) := by decide +kernel
theorem dX6_write_1 : decode cX6_write 1 = .ok (.ifCond .lt 10, 3) := by decide +kernel
theorem dX6_write_4 : decode cX6_write 4 = .ok (.iload_n 1, 1) := by decide +kernel
theorem dX6_write_5 : decode cX6_write 5 = .ok (.sipush 255, 3) := by decide +kernel
theorem dX6_write_8 : decode cX6_write 8 = .ok (.if_icmp .le 6, 3) := by decide +kernel
theorem dX6_write_11 : decode cX6_write 11 = .ok (.bipush (-2), 2) := by decide +kernel
theorem dX6_write_13 : decode cX6_write 13 = .ok (.ireturn, 1) := by decide +kernel
theorem dX6_write_14 : decode cX6_write 14 = .ok (.aload_n 0, 1) := by decide +kernel
theorem dX6_write_15 : decode cX6_write 15 = .ok (.getfield 10, 3) := by decide +kernel
theorem dX6_write_18 : decode cX6_write 18 = .ok (.getfield 75, 3) := by decide +kernel
theorem dX6_write_21 : decode cX6_write 21 = .ok (.bipush 60, 2) := by decide +kernel
theorem dX6_write_23 : decode cX6_write 23 = .ok (.if_icmp .lt 6, 3) := by decide +kernel
theorem dX6_write_26 : decode cX6_write 26 = .ok (.bipush (-4), 2) := by decide +kernel
theorem dX6_write_28 : decode cX6_write 28 = .ok (.ireturn, 1) := by decide +kernel
theorem dX6_write_29 : decode cX6_write 29 = .ok (.aload_n 0, 1) := by decide +kernel
theorem dX6_write_30 : decode cX6_write 30 = .ok (.getfield 10, 3) := by decide +kernel
theorem dX6_write_33 : decode cX6_write 33 = .ok (.iload_n 1, 1) := by decide +kernel
theorem dX6_write_34 : decode cX6_write 34 = .ok (.invokevirtual 79, 3) := by decide +kernel
theorem dX6_write_37 : decode cX6_write 37 = .ok (.aload_n 0, 1) := by decide +kernel
theorem dX6_write_38 : decode cX6_write 38 = .ok (.getfield 10, 3) := by decide +kernel
theorem dX6_write_41 : decode cX6_write 41 = .ok (.getfield 75, 3) := by decide +kernel
theorem dX6_write_44 : decode cX6_write 44 = .ok (.ireturn, 1) := by decide +kernel
theorem dX6_wipe_0 : decode cX6_wipe 0 = .ok (.aload_n 0, 1) := by decide +kernel
theorem dX6_wipe_1 : decode cX6_wipe 1 = .ok (.getfield 10, 3) := by decide +kernel
theorem dX6_wipe_4 : decode cX6_wipe 4 = .ok (.getfield 75, 3) := by decide +kernel
theorem dX6_wipe_7 : decode cX6_wipe 7 = .ok (.istore_n 1, 1) := by decide +kernel
theorem dX6_wipe_8 : decode cX6_wipe 8 = .ok (.aload_n 0, 1) := by decide +kernel
theorem dX6_wipe_9 : decode cX6_wipe 9 = .ok (.getfield 10, 3) := by decide +kernel
theorem dX6_wipe_12 : decode cX6_wipe 12 = .ok (.iconst 0, 1) := by decide +kernel
theorem dX6_wipe_13 : decode cX6_wipe 13 = .ok (.putfield 75, 3) := by decide +kernel
theorem dX6_wipe_16 : decode cX6_wipe 16 = .ok (.iload_n 1, 1) := by decide +kernel
theorem dX6_wipe_17 : decode cX6_wipe 17 = .ok (.ireturn, 1) := by decide +kernel
theorem dX6_fault_0 : decode cX6_fault 0 = .ok (.aload_n 0, 1) := by decide +kernel
theorem dX6_fault_1 : decode cX6_fault 1 = .ok (.getfield 10, 3) := by decide +kernel
theorem dX6_fault_4 : decode cX6_fault 4 = .ok (.invokevirtual 83, 3) := by decide +kernel
theorem dX6_fault_7 : decode cX6_fault 7 = .ok (.ireturn, 1) := by decide +kernel
theorem dX6_town_0 : decode cX6_town 0 = .ok (.aload_n 0, 1) := by decide +kernel
theorem dX6_town_1 : decode cX6_town 1 = .ok (.getfield 10, 3) := by decide +kernel
theorem dX6_town_4 : decode cX6_town 4 = .ok (.invokevirtual 83, 3) := by decide +kernel
theorem dX6_town_7 : decode cX6_town 7 = .ok (.bipush (-9), 2) := by decide +kernel
theorem dX6_town_9 : decode cX6_town 9 = .ok (.if_icmp .eq 6, 3) := by decide +kernel
theorem dX6_town_12 : decode cX6_town 12 = .ok (.bipush (-3), 2) := by decide +kernel
theorem dX6_town_14 : decode cX6_town 14 = .ok (.ireturn, 1) := by decide +kernel
theorem dX6_town_15 : decode cX6_town 15 = .ok (.aload_n 0, 1) := by decide +kernel
theorem dX6_town_16 : decode cX6_town 16 = .ok (.getfield 19, 3) := by decide +kernel
theorem dX6_town_19 : decode cX6_town 19 = .ok (.aload_n 0, 1) := by decide +kernel
theorem dX6_town_20 : decode cX6_town 20 = .ok (.getfield 10, 3) := by decide +kernel
theorem dX6_town_23 : decode cX6_town 23 = .ok (.invokevirtual 87, 3) := by decide +kernel
theorem dX6_town_26 : decode cX6_town 26 = .ok (.aload_n 0, 1) := by decide +kernel
theorem dX6_town_27 : decode cX6_town 27 = .ok (.getfield 35, 3) := by decide +kernel
theorem dX6_town_30 : decode cX6_town 30 = .ok (.invokevirtual 91, 3) := by decide +kernel
theorem dX6_town_33 : decode cX6_town 33 = .ok (.aload_n 0, 1) := by decide +kernel
theorem dX6_town_34 : decode cX6_town 34 = .ok (.getfield 45, 3) := by decide +kernel
theorem dX6_town_37 : decode cX6_town 37 = .ok (.invokevirtual 94, 3) := by decide +kernel
theorem dX6_town_40 : decode cX6_town 40 = .ok (.iconst 0, 1) := by decide +kernel
theorem dX6_town_41 : decode cX6_town 41 = .ok (.istore_n 1, 1) := by decide +kernel
theorem dX6_town_42 : decode cX6_town 42 = .ok (.iload_n 1, 1) := by decide +kernel
theorem dX6_town_43 : decode cX6_town 43 = .ok (.iconst 2, 1) := by decide +kernel
theorem dX6_town_44 : decode cX6_town 44 = .ok (.if_icmp .ge 16, 3) := by decide +kernel
theorem dX6_town_47 : decode cX6_town 47 = .ok (.aload_n 0, 1) := by decide +kernel
theorem dX6_town_48 : decode cX6_town 48 = .ok (.getfield 53, 3) := by decide +kernel
theorem dX6_town_51 : decode cX6_town 51 = .ok (.iload_n 1, 1) := by decide +kernel
theorem dX6_town_52 : decode cX6_town 52 = .ok (.iconst 0, 1) := by decide +kernel
theorem dX6_town_53 : decode cX6_town 53 = .ok (.bastore, 1) := by decide +kernel
theorem dX6_town_54 : decode cX6_town 54 = .ok (.iinc 1 1, 3) := by decide +kernel
theorem dX6_town_57 : decode cX6_town 57 = .ok (.goto (-15), 3) := by decide +kernel
theorem dX6_town_60 : decode cX6_town 60 = .ok (.bipush 100, 2) := by decide +kernel
theorem dX6_town_62 : decode cX6_town 62 = .ok (.aload_n 0, 1) := by decide +kernel
theorem dX6_town_63 : decode cX6_town 63 = .ok (.getfield 19, 3) := by decide +kernel
theorem dX6_town_66 : decode cX6_town 66 = .ok (.getfield 97, 3) := by decide +kernel
theorem dX6_town_69 : decode cX6_town 69 = .ok (.imul, 1) := by decide +kernel
theorem dX6_town_70 : decode cX6_town 70 = .ok (.bipush 10, 2) := by decide +kernel
theorem dX6_town_72 : decode cX6_town 72 = .ok (.aload_n 0, 1) := by decide +kernel
theorem dX6_town_73 : decode cX6_town 73 = .ok (.getfield 19, 3) := by decide +kernel
theorem dX6_town_76 : decode cX6_town 76 = .ok (.getfield 100, 3) := by decide +kernel
theorem dX6_town_79 : decode cX6_town 79 = .ok (.imul, 1) := by decide +kernel
theorem dX6_town_80 : decode cX6_town 80 = .ok (.iadd, 1) := by decide +kernel
theorem dX6_town_81 : decode cX6_town 81 = .ok (.aload_n 0, 1) := by decide +kernel
theorem dX6_town_82 : decode cX6_town 82 = .ok (.getfield 19, 3) := by decide +kernel
theorem dX6_town_85 : decode cX6_town 85 = .ok (.getfield 103, 3) := by decide +kernel
theorem dX6_town_88 : decode cX6_town 88 = .ok (.iadd, 1) := by decide +kernel
theorem dX6_town_89 : decode cX6_town 89 = .ok (.ireturn, 1) := by decide +kernel
theorem dX6_pin_0 : decode cX6_pin 0 = .ok (.aload_n 0, 1) := by decide +kernel
theorem dX6_pin_1 : decode cX6_pin 1 = .ok (.iload_n 1, 1) := by decide +kernel
theorem dX6_pin_2 : decode cX6_pin 2 = .ok (.invokevirtual 106, 3) := by decide +kernel
theorem dX6_pin_5 : decode cX6_pin 5 = .ok (.ifCond .ne 5, 3) := by decide +kernel
theorem dX6_pin_8 : decode cX6_pin 8 = .ok (.iconst (-1), 1) := by decide +kernel
theorem dX6_pin_9 : decode cX6_pin 9 = .ok (.ireturn, 1) := by decide +kernel
theorem dX6_pin_10 : decode cX6_pin 10 = .ok (.iload_n 2, 1) := by decide +kernel
theorem dX6_pin_11 : decode cX6_pin 11 = .ok (.tableswitch 126 0 6 #[41, 51, 61, 71, 81, 99, 109], 41) := by decide +kernel
theorem dX6_pin_52 : decode cX6_pin 52 = .ok (.aload_n 0, 1) := by decide +kernel
theorem dX6_pin_53 : decode cX6_pin 53 = .ok (.getfield 19, 3) := by decide +kernel
theorem dX6_pin_56 : decode cX6_pin 56 = .ok (.getfield 110, 3) := by decide +kernel
theorem dX6_pin_59 : decode cX6_pin 59 = .ok (.iload_n 1, 1) := by decide +kernel
theorem dX6_pin_60 : decode cX6_pin 60 = .ok (.iaload, 1) := by decide +kernel
theorem dX6_pin_61 : decode cX6_pin 61 = .ok (.ireturn, 1) := by decide +kernel
theorem dX6_pin_62 : decode cX6_pin 62 = .ok (.aload_n 0, 1) := by decide +kernel
theorem dX6_pin_63 : decode cX6_pin 63 = .ok (.getfield 19, 3) := by decide +kernel
theorem dX6_pin_66 : decode cX6_pin 66 = .ok (.getfield 113, 3) := by decide +kernel
theorem dX6_pin_69 : decode cX6_pin 69 = .ok (.iload_n 1, 1) := by decide +kernel
theorem dX6_pin_70 : decode cX6_pin 70 = .ok (.iaload, 1) := by decide +kernel
theorem dX6_pin_71 : decode cX6_pin 71 = .ok (.ireturn, 1) := by decide +kernel
theorem dX6_pin_72 : decode cX6_pin 72 = .ok (.aload_n 0, 1) := by decide +kernel
theorem dX6_pin_73 : decode cX6_pin 73 = .ok (.getfield 19, 3) := by decide +kernel
theorem dX6_pin_76 : decode cX6_pin 76 = .ok (.getfield 116, 3) := by decide +kernel
theorem dX6_pin_79 : decode cX6_pin 79 = .ok (.iload_n 1, 1) := by decide +kernel
theorem dX6_pin_80 : decode cX6_pin 80 = .ok (.iaload, 1) := by decide +kernel
theorem dX6_pin_81 : decode cX6_pin 81 = .ok (.ireturn, 1) := by decide +kernel
theorem dX6_pin_82 : decode cX6_pin 82 = .ok (.aload_n 0, 1) := by decide +kernel
theorem dX6_pin_83 : decode cX6_pin 83 = .ok (.getfield 19, 3) := by decide +kernel
theorem dX6_pin_86 : decode cX6_pin 86 = .ok (.getfield 119, 3) := by decide +kernel
theorem dX6_pin_89 : decode cX6_pin 89 = .ok (.iload_n 1, 1) := by decide +kernel
theorem dX6_pin_90 : decode cX6_pin 90 = .ok (.iaload, 1) := by decide +kernel
theorem dX6_pin_91 : decode cX6_pin 91 = .ok (.ireturn, 1) := by decide +kernel
theorem dX6_pin_92 : decode cX6_pin 92 = .ok (.aload_n 0, 1) := by decide +kernel
theorem dX6_pin_93 : decode cX6_pin 93 = .ok (.getfield 19, 3) := by decide +kernel
theorem dX6_pin_96 : decode cX6_pin 96 = .ok (.iload_n 1, 1) := by decide +kernel
theorem dX6_pin_97 : decode cX6_pin 97 = .ok (.aload_n 0, 1) := by decide +kernel
theorem dX6_pin_98 : decode cX6_pin 98 = .ok (.getfield 35, 3) := by decide +kernel
theorem dX6_pin_101 : decode cX6_pin 101 = .ok (.getfield 122, 3) := by decide +kernel
theorem dX6_pin_104 : decode cX6_pin 104 = .ok (.iload_n 1, 1) := by decide +kernel
theorem dX6_pin_105 : decode cX6_pin 105 = .ok (.iaload, 1) := by decide +kernel
theorem dX6_pin_106 : decode cX6_pin 106 = .ok (.invokevirtual 125, 3) := by decide +kernel
theorem dX6_pin_109 : decode cX6_pin 109 = .ok (.ireturn, 1) := by decide +kernel
theorem dX6_pin_110 : decode cX6_pin 110 = .ok (.aload_n 0, 1) := by decide +kernel
theorem dX6_pin_111 : decode cX6_pin 111 = .ok (.getfield 35, 3) := by decide +kernel
theorem dX6_pin_114 : decode cX6_pin 114 = .ok (.getfield 122, 3) := by decide +kernel
theorem dX6_pin_117 : decode cX6_pin 117 = .ok (.iload_n 1, 1) := by decide +kernel
theorem dX6_pin_118 : decode cX6_pin 118 = .ok (.iaload, 1) := by decide +kernel
theorem dX6_pin_119 : decode cX6_pin 119 = .ok (.ireturn, 1) := by decide +kernel
theorem dX6_pin_120 : decode cX6_pin 120 = .ok (.aload_n 0, 1) := by decide +kernel
theorem dX6_pin_121 : decode cX6_pin 121 = .ok (.getfield 35, 3) := by decide +kernel
theorem dX6_pin_124 : decode cX6_pin 124 = .ok (.iload_n 1, 1) := by decide +kernel
theorem dX6_pin_125 : decode cX6_pin 125 = .ok (.invokevirtual 129, 3) := by decide +kernel
theorem dX6_pin_128 : decode cX6_pin 128 = .ok (.ifCond .eq 7, 3) := by decide +kernel
theorem dX6_pin_131 : decode cX6_pin 131 = .ok (.iconst 1, 1) := by decide +kernel
theorem dX6_pin_132 : decode cX6_pin 132 = .ok (.goto 4, 3) := by decide +kernel
theorem dX6_pin_135 : decode cX6_pin 135 = .ok (.iconst 0, 1) := by decide +kernel
theorem dX6_pin_136 : decode cX6_pin 136 = .ok (.ireturn, 1) := by decide +kernel
theorem dX6_pin_137 : decode cX6_pin 137 = .ok (.bipush (-2), 2) := by decide +kernel
theorem dX6_pin_139 : decode cX6_pin 139 = .ok (.ireturn, 1) := by decide +kernel
theorem dX6_with_0 : decode cX6_with 0 = .ok (.iload_n 1, 1) := by decide +kernel
theorem dX6_with_1 : decode cX6_with 1 = .ok (.invokestatic 132, 3) := by decide +kernel
theorem dX6_with_4 : decode cX6_with 4 = .ok (.ifCond .ne 5, 3) := by decide +kernel
theorem dX6_with_7 : decode cX6_with 7 = .ok (.iconst (-1), 1) := by decide +kernel
theorem dX6_with_8 : decode cX6_with 8 = .ok (.ireturn, 1) := by decide +kernel
theorem dX6_with_9 : decode cX6_with 9 = .ok (.aload_n 0, 1) := by decide +kernel
theorem dX6_with_10 : decode cX6_with 10 = .ok (.getfield 19, 3) := by decide +kernel
theorem dX6_with_13 : decode cX6_with 13 = .ok (.iload_n 1, 1) := by decide +kernel
theorem dX6_with_14 : decode cX6_with 14 = .ok (.aload_n 0, 1) := by decide +kernel
theorem dX6_with_15 : decode cX6_with 15 = .ok (.getfield 35, 3) := by decide +kernel
theorem dX6_with_18 : decode cX6_with 18 = .ok (.getfield 135, 3) := by decide +kernel
theorem dX6_with_21 : decode cX6_with 21 = .ok (.invokevirtual 138, 3) := by decide +kernel
theorem dX6_with_24 : decode cX6_with 24 = .ok (.ireturn, 1) := by decide +kernel
theorem dX6_day_0 : decode cX6_day 0 = .ok (.aload_n 0, 1) := by decide +kernel
theorem dX6_day_1 : decode cX6_day 1 = .ok (.getfield 45, 3) := by decide +kernel
theorem dX6_day_4 : decode cX6_day 4 = .ok (.aload_n 0, 1) := by decide +kernel
theorem dX6_day_5 : decode cX6_day 5 = .ok (.getfield 35, 3) := by decide +kernel
theorem dX6_day_8 : decode cX6_day 8 = .ok (.invokevirtual 141, 3) := by decide +kernel
theorem dX6_day_11 : decode cX6_day 11 = .ok (.aload_n 0, 1) := by decide +kernel
theorem dX6_day_12 : decode cX6_day 12 = .ok (.getfield 28, 3) := by decide +kernel
theorem dX6_day_15 : decode cX6_day 15 = .ok (.aload_n 0, 1) := by decide +kernel
theorem dX6_day_16 : decode cX6_day 16 = .ok (.getfield 35, 3) := by decide +kernel
theorem dX6_day_19 : decode cX6_day 19 = .ok (.invokevirtual 145, 3) := by decide +kernel
theorem dX6_day_22 : decode cX6_day 22 = .ok (.ireturn, 1) := by decide +kernel
theorem dX6_tug_0 : decode cX6_tug 0 = .ok (.iload_n 1, 1) := by decide +kernel
theorem dX6_tug_1 : decode cX6_tug 1 = .ok (.invokestatic 132, 3) := by decide +kernel
theorem dX6_tug_4 : decode cX6_tug 4 = .ok (.ifCond .ne 5, 3) := by decide +kernel
theorem dX6_tug_7 : decode cX6_tug 7 = .ok (.iconst (-1), 1) := by decide +kernel
theorem dX6_tug_8 : decode cX6_tug 8 = .ok (.ireturn, 1) := by decide +kernel
theorem dX6_tug_9 : decode cX6_tug 9 = .ok (.iload_n 2, 1) := by decide +kernel
theorem dX6_tug_10 : decode cX6_tug 10 = .ok (.iconst 1, 1) := by decide +kernel
theorem dX6_tug_11 : decode cX6_tug 11 = .ok (.if_icmp .lt 9, 3) := by decide +kernel
theorem dX6_tug_14 : decode cX6_tug 14 = .ok (.iload_n 2, 1) := by decide +kernel
theorem dX6_tug_15 : decode cX6_tug 15 = .ok (.bipush 9, 2) := by decide +kernel
theorem dX6_tug_17 : decode cX6_tug 17 = .ok (.if_icmp .le 6, 3) := by decide +kernel
theorem dX6_tug_20 : decode cX6_tug 20 = .ok (.bipush (-2), 2) := by decide +kernel
theorem dX6_tug_22 : decode cX6_tug 22 = .ok (.ireturn, 1) := by decide +kernel
theorem dX6_tug_23 : decode cX6_tug 23 = .ok (.aload_n 0, 1) := by decide +kernel
theorem dX6_tug_24 : decode cX6_tug 24 = .ok (.getfield 45, 3) := by decide +kernel
theorem dX6_tug_27 : decode cX6_tug 27 = .ok (.aload_n 0, 1) := by decide +kernel
theorem dX6_tug_28 : decode cX6_tug 28 = .ok (.getfield 35, 3) := by decide +kernel
theorem dX6_tug_31 : decode cX6_tug 31 = .ok (.invokevirtual 141, 3) := by decide +kernel
theorem dX6_tug_34 : decode cX6_tug 34 = .ok (.aload_n 0, 1) := by decide +kernel
theorem dX6_tug_35 : decode cX6_tug 35 = .ok (.getfield 28, 3) := by decide +kernel
theorem dX6_tug_38 : decode cX6_tug 38 = .ok (.aload_n 0, 1) := by decide +kernel
theorem dX6_tug_39 : decode cX6_tug 39 = .ok (.getfield 35, 3) := by decide +kernel
theorem dX6_tug_42 : decode cX6_tug 42 = .ok (.iload_n 1, 1) := by decide +kernel
theorem dX6_tug_43 : decode cX6_tug 43 = .ok (.iload_n 2, 1) := by decide +kernel
theorem dX6_tug_44 : decode cX6_tug 44 = .ok (.invokevirtual 149, 3) := by decide +kernel
theorem dX6_tug_47 : decode cX6_tug 47 = .ok (.ireturn, 1) := by decide +kernel
theorem dX6_shut_0 : decode cX6_shut 0 = .ok (.aload_n 0, 1) := by decide +kernel
theorem dX6_shut_1 : decode cX6_shut 1 = .ok (.iload_n 1, 1) := by decide +kernel
theorem dX6_shut_2 : decode cX6_shut 2 = .ok (.invokevirtual 106, 3) := by decide +kernel
theorem dX6_shut_5 : decode cX6_shut 5 = .ok (.ifCond .ne 5, 3) := by decide +kernel
theorem dX6_shut_8 : decode cX6_shut 8 = .ok (.iconst (-1), 1) := by decide +kernel
theorem dX6_shut_9 : decode cX6_shut 9 = .ok (.ireturn, 1) := by decide +kernel
theorem dX6_shut_10 : decode cX6_shut 10 = .ok (.aload_n 0, 1) := by decide +kernel
theorem dX6_shut_11 : decode cX6_shut 11 = .ok (.getfield 35, 3) := by decide +kernel
theorem dX6_shut_14 : decode cX6_shut 14 = .ok (.iload_n 1, 1) := by decide +kernel
theorem dX6_shut_15 : decode cX6_shut 15 = .ok (.invokevirtual 129, 3) := by decide +kernel
theorem dX6_shut_18 : decode cX6_shut 18 = .ok (.ifCond .ne 6, 3) := by decide +kernel
theorem dX6_shut_21 : decode cX6_shut 21 = .ok (.bipush (-3), 2) := by decide +kernel
theorem dX6_shut_23 : decode cX6_shut 23 = .ok (.ireturn, 1) := by decide +kernel
theorem dX6_shut_24 : decode cX6_shut 24 = .ok (.aload_n 0, 1) := by decide +kernel
theorem dX6_shut_25 : decode cX6_shut 25 = .ok (.getfield 45, 3) := by decide +kernel
theorem dX6_shut_28 : decode cX6_shut 28 = .ok (.aload_n 0, 1) := by decide +kernel
theorem dX6_shut_29 : decode cX6_shut 29 = .ok (.getfield 35, 3) := by decide +kernel
theorem dX6_shut_32 : decode cX6_shut 32 = .ok (.invokevirtual 141, 3) := by decide +kernel
theorem dX6_shut_35 : decode cX6_shut 35 = .ok (.aload_n 0, 1) := by decide +kernel
theorem dX6_shut_36 : decode cX6_shut 36 = .ok (.getfield 35, 3) := by decide +kernel
theorem dX6_shut_39 : decode cX6_shut 39 = .ok (.iload_n 1, 1) := by decide +kernel
theorem dX6_shut_40 : decode cX6_shut 40 = .ok (.invokevirtual 153, 3) := by decide +kernel
theorem dX6_shut_43 : decode cX6_shut 43 = .ok (.aload_n 0, 1) := by decide +kernel
theorem dX6_shut_44 : decode cX6_shut 44 = .ok (.getfield 35, 3) := by decide +kernel
theorem dX6_shut_47 : decode cX6_shut 47 = .ok (.getfield 135, 3) := by decide +kernel
theorem dX6_shut_50 : decode cX6_shut 50 = .ok (.invokestatic 156, 3) := by decide +kernel
theorem dX6_shut_53 : decode cX6_shut 53 = .ok (.ireturn, 1) := by decide +kernel
theorem dX6_open_0 : decode cX6_open 0 = .ok (.aload_n 0, 1) := by decide +kernel
theorem dX6_open_1 : decode cX6_open 1 = .ok (.iload_n 1, 1) := by decide +kernel
theorem dX6_open_2 : decode cX6_open 2 = .ok (.invokevirtual 106, 3) := by decide +kernel
theorem dX6_open_5 : decode cX6_open 5 = .ok (.ifCond .ne 5, 3) := by decide +kernel
theorem dX6_open_8 : decode cX6_open 8 = .ok (.iconst (-1), 1) := by decide +kernel
theorem dX6_open_9 : decode cX6_open 9 = .ok (.ireturn, 1) := by decide +kernel
theorem dX6_open_10 : decode cX6_open 10 = .ok (.aload_n 0, 1) := by decide +kernel
theorem dX6_open_11 : decode cX6_open 11 = .ok (.getfield 35, 3) := by decide +kernel
theorem dX6_open_14 : decode cX6_open 14 = .ok (.iload_n 1, 1) := by decide +kernel
theorem dX6_open_15 : decode cX6_open 15 = .ok (.invokevirtual 129, 3) := by decide +kernel
theorem dX6_open_18 : decode cX6_open 18 = .ok (.ifCond .eq 6, 3) := by decide +kernel
theorem dX6_open_21 : decode cX6_open 21 = .ok (.bipush (-3), 2) := by decide +kernel
theorem dX6_open_23 : decode cX6_open 23 = .ok (.ireturn, 1) := by decide +kernel
theorem dX6_open_24 : decode cX6_open 24 = .ok (.aload_n 0, 1) := by decide +kernel
theorem dX6_open_25 : decode cX6_open 25 = .ok (.getfield 45, 3) := by decide +kernel
theorem dX6_open_28 : decode cX6_open 28 = .ok (.aload_n 0, 1) := by decide +kernel
theorem dX6_open_29 : decode cX6_open 29 = .ok (.getfield 35, 3) := by decide +kernel
theorem dX6_open_32 : decode cX6_open 32 = .ok (.invokevirtual 141, 3) := by decide +kernel
theorem dX6_open_35 : decode cX6_open 35 = .ok (.aload_n 0, 1) := by decide +kernel
theorem dX6_open_36 : decode cX6_open 36 = .ok (.getfield 35, 3) := by decide +kernel
theorem dX6_open_39 : decode cX6_open 39 = .ok (.iload_n 1, 1) := by decide +kernel
theorem dX6_open_40 : decode cX6_open 40 = .ok (.invokevirtual 162, 3) := by decide +kernel
theorem dX6_open_43 : decode cX6_open 43 = .ok (.aload_n 0, 1) := by decide +kernel
theorem dX6_open_44 : decode cX6_open 44 = .ok (.getfield 35, 3) := by decide +kernel
theorem dX6_open_47 : decode cX6_open 47 = .ok (.getfield 135, 3) := by decide +kernel
theorem dX6_open_50 : decode cX6_open 50 = .ok (.invokestatic 156, 3) := by decide +kernel
theorem dX6_open_53 : decode cX6_open 53 = .ok (.ireturn, 1) := by decide +kernel
theorem dX6_undo_0 : decode cX6_undo 0 = .ok (.aload_n 0, 1) := by decide +kernel
theorem dX6_undo_1 : decode cX6_undo 1 = .ok (.getfield 45, 3) := by decide +kernel
theorem dX6_undo_4 : decode cX6_undo 4 = .ok (.getfield 165, 3) := by decide +kernel
theorem dX6_undo_7 : decode cX6_undo 7 = .ok (.ifCond .ne 6, 3) := by decide +kernel
theorem dX6_undo_10 : decode cX6_undo 10 = .ok (.bipush (-3), 2) := by decide +kernel
theorem dX6_undo_12 : decode cX6_undo 12 = .ok (.ireturn, 1) := by decide +kernel
theorem dX6_undo_13 : decode cX6_undo 13 = .ok (.aload_n 0, 1) := by decide +kernel
theorem dX6_undo_14 : decode cX6_undo 14 = .ok (.getfield 45, 3) := by decide +kernel
theorem dX6_undo_17 : decode cX6_undo 17 = .ok (.aload_n 0, 1) := by decide +kernel
theorem dX6_undo_18 : decode cX6_undo 18 = .ok (.getfield 35, 3) := by decide +kernel
theorem dX6_undo_21 : decode cX6_undo 21 = .ok (.invokevirtual 166, 3) := by decide +kernel
theorem dX6_undo_24 : decode cX6_undo 24 = .ok (.aload_n 0, 1) := by decide +kernel
theorem dX6_undo_25 : decode cX6_undo 25 = .ok (.getfield 45, 3) := by decide +kernel
theorem dX6_undo_28 : decode cX6_undo 28 = .ok (.getfield 165, 3) := by decide +kernel
theorem dX6_undo_31 : decode cX6_undo 31 = .ok (.ireturn, 1) := by decide +kernel
theorem dX6_later_0 : decode cX6_later 0 = .ok (.iload_n 1, 1) := by decide +kernel
theorem dX6_later_1 : decode cX6_later 1 = .ok (.ifCond .lt 9, 3) := by decide +kernel
theorem dX6_later_4 : decode cX6_later 4 = .ok (.iload_n 1, 1) := by decide +kernel
theorem dX6_later_5 : decode cX6_later 5 = .ok (.bipush 20, 2) := by decide +kernel
theorem dX6_later_7 : decode cX6_later 7 = .ok (.if_icmp .le 6, 3) := by decide +kernel
theorem dX6_later_10 : decode cX6_later 10 = .ok (.bipush (-2), 2) := by decide +kernel
theorem dX6_later_12 : decode cX6_later 12 = .ok (.ireturn, 1) := by decide +kernel
theorem dX6_later_13 : decode cX6_later 13 = .ok (.aload_n 0, 1) := by decide +kernel
theorem dX6_later_14 : decode cX6_later 14 = .ok (.getfield 39, 3) := by decide +kernel
theorem dX6_later_17 : decode cX6_later 17 = .ok (.aload_n 0, 1) := by decide +kernel
theorem dX6_later_18 : decode cX6_later 18 = .ok (.getfield 35, 3) := by decide +kernel
theorem dX6_later_21 : decode cX6_later 21 = .ok (.invokevirtual 169, 3) := by decide +kernel
theorem dX6_later_24 : decode cX6_later 24 = .ok (.iconst 0, 1) := by decide +kernel
theorem dX6_later_25 : decode cX6_later 25 = .ok (.istore_n 2, 1) := by decide +kernel
theorem dX6_later_26 : decode cX6_later 26 = .ok (.iload_n 2, 1) := by decide +kernel
theorem dX6_later_27 : decode cX6_later 27 = .ok (.iload_n 1, 1) := by decide +kernel
theorem dX6_later_28 : decode cX6_later 28 = .ok (.if_icmp .ge 21, 3) := by decide +kernel
theorem dX6_later_31 : decode cX6_later 31 = .ok (.aload_n 0, 1) := by decide +kernel
theorem dX6_later_32 : decode cX6_later 32 = .ok (.getfield 28, 3) := by decide +kernel
theorem dX6_later_35 : decode cX6_later 35 = .ok (.aload_n 0, 1) := by decide +kernel
theorem dX6_later_36 : decode cX6_later 36 = .ok (.getfield 39, 3) := by decide +kernel
theorem dX6_later_39 : decode cX6_later 39 = .ok (.invokevirtual 145, 3) := by decide +kernel
theorem dX6_later_42 : decode cX6_later 42 = .ok (.pop, 1) := by decide +kernel
theorem dX6_later_43 : decode cX6_later 43 = .ok (.iinc 2 1, 3) := by decide +kernel
theorem dX6_later_46 : decode cX6_later 46 = .ok (.goto (-20), 3) := by decide +kernel
theorem dX6_later_49 : decode cX6_later 49 = .ok (.aload_n 0, 1) := by decide +kernel
theorem dX6_later_50 : decode cX6_later 50 = .ok (.getfield 39, 3) := by decide +kernel
theorem dX6_later_53 : decode cX6_later 53 = .ok (.getfield 135, 3) := by decide +kernel
theorem dX6_later_56 : decode cX6_later 56 = .ok (.ireturn, 1) := by decide +kernel
theorem dX6_lasts_0 : decode cX6_lasts 0 = .ok (.aload_n 0, 1) := by decide +kernel
theorem dX6_lasts_1 : decode cX6_lasts 1 = .ok (.iload_n 1, 1) := by decide +kernel
theorem dX6_lasts_2 : decode cX6_lasts 2 = .ok (.invokevirtual 106, 3) := by decide +kernel
theorem dX6_lasts_5 : decode cX6_lasts 5 = .ok (.ifCond .ne 5, 3) := by decide +kernel
theorem dX6_lasts_8 : decode cX6_lasts 8 = .ok (.iconst (-1), 1) := by decide +kernel
theorem dX6_lasts_9 : decode cX6_lasts 9 = .ok (.ireturn, 1) := by decide +kernel
theorem dX6_lasts_10 : decode cX6_lasts 10 = .ok (.aload_n 0, 1) := by decide +kernel
theorem dX6_lasts_11 : decode cX6_lasts 11 = .ok (.getfield 35, 3) := by decide +kernel
theorem dX6_lasts_14 : decode cX6_lasts 14 = .ok (.iload_n 1, 1) := by decide +kernel
theorem dX6_lasts_15 : decode cX6_lasts 15 = .ok (.invokevirtual 129, 3) := by decide +kernel
theorem dX6_lasts_18 : decode cX6_lasts 18 = .ok (.ifCond .eq 6, 3) := by decide +kernel
theorem dX6_lasts_21 : decode cX6_lasts 21 = .ok (.bipush (-3), 2) := by decide +kernel
theorem dX6_lasts_23 : decode cX6_lasts 23 = .ok (.ireturn, 1) := by decide +kernel
theorem dX6_lasts_24 : decode cX6_lasts 24 = .ok (.aload_n 0, 1) := by decide +kernel
theorem dX6_lasts_25 : decode cX6_lasts 25 = .ok (.getfield 39, 3) := by decide +kernel
theorem dX6_lasts_28 : decode cX6_lasts 28 = .ok (.aload_n 0, 1) := by decide +kernel
theorem dX6_lasts_29 : decode cX6_lasts 29 = .ok (.getfield 35, 3) := by decide +kernel
theorem dX6_lasts_32 : decode cX6_lasts 32 = .ok (.invokevirtual 169, 3) := by decide +kernel
theorem dX6_lasts_35 : decode cX6_lasts 35 = .ok (.iconst 1, 1) := by decide +kernel
theorem dX6_lasts_36 : decode cX6_lasts 36 = .ok (.istore_n 2, 1) := by decide +kernel
theorem dX6_lasts_37 : decode cX6_lasts 37 = .ok (.iload_n 2, 1) := by decide +kernel
theorem dX6_lasts_38 : decode cX6_lasts 38 = .ok (.bipush 20, 2) := by decide +kernel
theorem dX6_lasts_40 : decode cX6_lasts 40 = .ok (.if_icmp .gt 34, 3) := by decide +kernel
theorem dX6_lasts_43 : decode cX6_lasts 43 = .ok (.aload_n 0, 1) := by decide +kernel
theorem dX6_lasts_44 : decode cX6_lasts 44 = .ok (.getfield 28, 3) := by decide +kernel
theorem dX6_lasts_47 : decode cX6_lasts 47 = .ok (.aload_n 0, 1) := by decide +kernel
theorem dX6_lasts_48 : decode cX6_lasts 48 = .ok (.getfield 39, 3) := by decide +kernel
theorem dX6_lasts_51 : decode cX6_lasts 51 = .ok (.invokevirtual 145, 3) := by decide +kernel
theorem dX6_lasts_54 : decode cX6_lasts 54 = .ok (.pop, 1) := by decide +kernel
theorem dX6_lasts_55 : decode cX6_lasts 55 = .ok (.aload_n 0, 1) := by decide +kernel
theorem dX6_lasts_56 : decode cX6_lasts 56 = .ok (.getfield 39, 3) := by decide +kernel
theorem dX6_lasts_59 : decode cX6_lasts 59 = .ok (.iload_n 1, 1) := by decide +kernel
theorem dX6_lasts_60 : decode cX6_lasts 60 = .ok (.invokevirtual 129, 3) := by decide +kernel
theorem dX6_lasts_63 : decode cX6_lasts 63 = .ok (.ifCond .eq 5, 3) := by decide +kernel
theorem dX6_lasts_66 : decode cX6_lasts 66 = .ok (.iload_n 2, 1) := by decide +kernel
theorem dX6_lasts_67 : decode cX6_lasts 67 = .ok (.ireturn, 1) := by decide +kernel
theorem dX6_lasts_68 : decode cX6_lasts 68 = .ok (.iinc 2 1, 3) := by decide +kernel
theorem dX6_lasts_71 : decode cX6_lasts 71 = .ok (.goto (-34), 3) := by decide +kernel
theorem dX6_lasts_74 : decode cX6_lasts 74 = .ok (.bipush (-9), 2) := by decide +kernel
theorem dX6_lasts_76 : decode cX6_lasts 76 = .ok (.ireturn, 1) := by decide +kernel
theorem dX6_chain_0 : decode cX6_chain 0 = .ok (.aload_n 0, 1) := by decide +kernel
theorem dX6_chain_1 : decode cX6_chain 1 = .ok (.iload_n 1, 1) := by decide +kernel
theorem dX6_chain_2 : decode cX6_chain 2 = .ok (.invokevirtual 106, 3) := by decide +kernel
theorem dX6_chain_5 : decode cX6_chain 5 = .ok (.ifCond .ne 5, 3) := by decide +kernel
theorem dX6_chain_8 : decode cX6_chain 8 = .ok (.iconst (-1), 1) := by decide +kernel
theorem dX6_chain_9 : decode cX6_chain 9 = .ok (.ireturn, 1) := by decide +kernel
theorem dX6_chain_10 : decode cX6_chain 10 = .ok (.aload_n 0, 1) := by decide +kernel
theorem dX6_chain_11 : decode cX6_chain 11 = .ok (.getfield 35, 3) := by decide +kernel
theorem dX6_chain_14 : decode cX6_chain 14 = .ok (.iload_n 1, 1) := by decide +kernel
theorem dX6_chain_15 : decode cX6_chain 15 = .ok (.invokevirtual 129, 3) := by decide +kernel
theorem dX6_chain_18 : decode cX6_chain 18 = .ok (.ifCond .eq 6, 3) := by decide +kernel
theorem dX6_chain_21 : decode cX6_chain 21 = .ok (.bipush (-3), 2) := by decide +kernel
theorem dX6_chain_23 : decode cX6_chain 23 = .ok (.ireturn, 1) := by decide +kernel
theorem dX6_chain_24 : decode cX6_chain 24 = .ok (.aload_n 0, 1) := by decide +kernel
theorem dX6_chain_25 : decode cX6_chain 25 = .ok (.getfield 39, 3) := by decide +kernel
theorem dX6_chain_28 : decode cX6_chain 28 = .ok (.aload_n 0, 1) := by decide +kernel
theorem dX6_chain_29 : decode cX6_chain 29 = .ok (.getfield 35, 3) := by decide +kernel
theorem dX6_chain_32 : decode cX6_chain 32 = .ok (.invokevirtual 169, 3) := by decide +kernel
theorem dX6_chain_35 : decode cX6_chain 35 = .ok (.aload_n 0, 1) := by decide +kernel
theorem dX6_chain_36 : decode cX6_chain 36 = .ok (.getfield 39, 3) := by decide +kernel
theorem dX6_chain_39 : decode cX6_chain 39 = .ok (.iload_n 1, 1) := by decide +kernel
theorem dX6_chain_40 : decode cX6_chain 40 = .ok (.invokevirtual 162, 3) := by decide +kernel
theorem dX6_chain_43 : decode cX6_chain 43 = .ok (.aload_n 0, 1) := by decide +kernel
theorem dX6_chain_44 : decode cX6_chain 44 = .ok (.getfield 28, 3) := by decide +kernel
theorem dX6_chain_47 : decode cX6_chain 47 = .ok (.invokevirtual 172, 3) := by decide +kernel
theorem dX6_chain_50 : decode cX6_chain 50 = .ok (.aload_n 0, 1) := by decide +kernel
theorem dX6_chain_51 : decode cX6_chain 51 = .ok (.getfield 28, 3) := by decide +kernel
theorem dX6_chain_54 : decode cX6_chain 54 = .ok (.iload_n 1, 1) := by decide +kernel
theorem dX6_chain_55 : decode cX6_chain 55 = .ok (.invokevirtual 175, 3) := by decide +kernel
theorem dX6_chain_58 : decode cX6_chain 58 = .ok (.aload_n 0, 1) := by decide +kernel
theorem dX6_chain_59 : decode cX6_chain 59 = .ok (.getfield 28, 3) := by decide +kernel
theorem dX6_chain_62 : decode cX6_chain 62 = .ok (.aload_n 0, 1) := by decide +kernel
theorem dX6_chain_63 : decode cX6_chain 63 = .ok (.getfield 39, 3) := by decide +kernel
theorem dX6_chain_66 : decode cX6_chain 66 = .ok (.invokevirtual 178, 3) := by decide +kernel
theorem dX6_chain_69 : decode cX6_chain 69 = .ok (.pop, 1) := by decide +kernel
theorem dX6_chain_70 : decode cX6_chain 70 = .ok (.aload_n 0, 1) := by decide +kernel
theorem dX6_chain_71 : decode cX6_chain 71 = .ok (.getfield 39, 3) := by decide +kernel
theorem dX6_chain_74 : decode cX6_chain 74 = .ok (.getfield 135, 3) := by decide +kernel
theorem dX6_chain_77 : decode cX6_chain 77 = .ok (.aload_n 0, 1) := by decide +kernel
theorem dX6_chain_78 : decode cX6_chain 78 = .ok (.getfield 35, 3) := by decide +kernel
theorem dX6_chain_81 : decode cX6_chain 81 = .ok (.getfield 135, 3) := by decide +kernel
theorem dX6_chain_84 : decode cX6_chain 84 = .ok (.iconst (-1), 1) := by decide +kernel
theorem dX6_chain_85 : decode cX6_chain 85 = .ok (.ixor, 1) := by decide +kernel
theorem dX6_chain_86 : decode cX6_chain 86 = .ok (.iand, 1) := by decide +kernel
theorem dX6_chain_87 : decode cX6_chain 87 = .ok (.ireturn, 1) := by decide +kernel
theorem dX6_cuts_0 : decode cX6_cuts 0 = .ok (.iload_n 1, 1) := by decide +kernel
theorem dX6_cuts_1 : decode cX6_cuts 1 = .ok (.iload_n 2, 1) := by decide +kernel
theorem dX6_cuts_2 : decode cX6_cuts 2 = .ok (.invokestatic 181, 3) := by decide +kernel
theorem dX6_cuts_5 : decode cX6_cuts 5 = .ok (.istore_n 3, 1) := by decide +kernel
theorem dX6_cuts_6 : decode cX6_cuts 6 = .ok (.iload_n 3, 1) := by decide +kernel
theorem dX6_cuts_7 : decode cX6_cuts 7 = .ok (.ifCond .eq 5, 3) := by decide +kernel
theorem dX6_cuts_10 : decode cX6_cuts 10 = .ok (.iload_n 3, 1) := by decide +kernel
theorem dX6_cuts_11 : decode cX6_cuts 11 = .ok (.ireturn, 1) := by decide +kernel
theorem dX6_cuts_12 : decode cX6_cuts 12 = .ok (.bipush (-9), 2) := by decide +kernel
theorem dX6_cuts_14 : decode cX6_cuts 14 = .ok (.istore 4, 2) := by decide +kernel
theorem dX6_cuts_16 : decode cX6_cuts 16 = .ok (.iconst 0, 1) := by decide +kernel
theorem dX6_cuts_17 : decode cX6_cuts 17 = .ok (.istore 5, 2) := by decide +kernel
theorem dX6_cuts_19 : decode cX6_cuts 19 = .ok (.iload 5, 2) := by decide +kernel
theorem dX6_cuts_21 : decode cX6_cuts 21 = .ok (.aload_n 0, 1) := by decide +kernel
theorem dX6_cuts_22 : decode cX6_cuts 22 = .ok (.getfield 19, 3) := by decide +kernel
theorem dX6_cuts_25 : decode cX6_cuts 25 = .ok (.invokevirtual 184, 3) := by decide +kernel
theorem dX6_cuts_28 : decode cX6_cuts 28 = .ok (.if_icmp .gt 46, 3) := by decide +kernel
theorem dX6_cuts_31 : decode cX6_cuts 31 = .ok (.aload_n 0, 1) := by decide +kernel
theorem dX6_cuts_32 : decode cX6_cuts 32 = .ok (.iload 5, 2) := by decide +kernel
theorem dX6_cuts_34 : decode cX6_cuts 34 = .ok (.iload 4, 2) := by decide +kernel
theorem dX6_cuts_36 : decode cX6_cuts 36 = .ok (.invokevirtual 187, 3) := by decide +kernel
theorem dX6_cuts_39 : decode cX6_cuts 39 = .ok (.ifCond .eq 29, 3) := by decide +kernel
theorem dX6_cuts_42 : decode cX6_cuts 42 = .ok (.aload_n 0, 1) := by decide +kernel
theorem dX6_cuts_43 : decode cX6_cuts 43 = .ok (.getfield 19, 3) := by decide +kernel
theorem dX6_cuts_46 : decode cX6_cuts 46 = .ok (.iload_n 1, 1) := by decide +kernel
theorem dX6_cuts_47 : decode cX6_cuts 47 = .ok (.iload_n 2, 1) := by decide +kernel
theorem dX6_cuts_48 : decode cX6_cuts 48 = .ok (.aload_n 0, 1) := by decide +kernel
theorem dX6_cuts_49 : decode cX6_cuts 49 = .ok (.getfield 35, 3) := by decide +kernel
theorem dX6_cuts_52 : decode cX6_cuts 52 = .ok (.getfield 135, 3) := by decide +kernel
theorem dX6_cuts_55 : decode cX6_cuts 55 = .ok (.iload 5, 2) := by decide +kernel
theorem dX6_cuts_57 : decode cX6_cuts 57 = .ok (.ior, 1) := by decide +kernel
theorem dX6_cuts_58 : decode cX6_cuts 58 = .ok (.invokevirtual 191, 3) := by decide +kernel
theorem dX6_cuts_61 : decode cX6_cuts 61 = .ok (.ifCond .ne 7, 3) := by decide +kernel
theorem dX6_cuts_64 : decode cX6_cuts 64 = .ok (.iload 5, 2) := by decide +kernel
theorem dX6_cuts_66 : decode cX6_cuts 66 = .ok (.istore 4, 2) := by decide +kernel
theorem dX6_cuts_68 : decode cX6_cuts 68 = .ok (.iinc 5 1, 3) := by decide +kernel
theorem dX6_cuts_71 : decode cX6_cuts 71 = .ok (.goto (-52), 3) := by decide +kernel
theorem dX6_cuts_74 : decode cX6_cuts 74 = .ok (.iload 4, 2) := by decide +kernel
theorem dX6_cuts_76 : decode cX6_cuts 76 = .ok (.ireturn, 1) := by decide +kernel
theorem dX6_parts_0 : decode cX6_parts 0 = .ok (.iload_n 1, 1) := by decide +kernel
theorem dX6_parts_1 : decode cX6_parts 1 = .ok (.iload_n 2, 1) := by decide +kernel
theorem dX6_parts_2 : decode cX6_parts 2 = .ok (.invokestatic 181, 3) := by decide +kernel
theorem dX6_parts_5 : decode cX6_parts 5 = .ok (.istore 4, 2) := by decide +kernel
theorem dX6_parts_7 : decode cX6_parts 7 = .ok (.iload 4, 2) := by decide +kernel
theorem dX6_parts_9 : decode cX6_parts 9 = .ok (.ifCond .eq 6, 3) := by decide +kernel
theorem dX6_parts_12 : decode cX6_parts 12 = .ok (.iload 4, 2) := by decide +kernel
theorem dX6_parts_14 : decode cX6_parts 14 = .ok (.ireturn, 1) := by decide +kernel
theorem dX6_parts_15 : decode cX6_parts 15 = .ok (.iload_n 3, 1) := by decide +kernel
theorem dX6_parts_16 : decode cX6_parts 16 = .ok (.ifCond .lt 8, 3) := by decide +kernel
theorem dX6_parts_19 : decode cX6_parts 19 = .ok (.iload_n 3, 1) := by decide +kernel
theorem dX6_parts_20 : decode cX6_parts 20 = .ok (.iconst 1, 1) := by decide +kernel
theorem dX6_parts_21 : decode cX6_parts 21 = .ok (.if_icmp .le 6, 3) := by decide +kernel
theorem dX6_parts_24 : decode cX6_parts 24 = .ok (.bipush (-2), 2) := by decide +kernel
theorem dX6_parts_26 : decode cX6_parts 26 = .ok (.ireturn, 1) := by decide +kernel
theorem dX6_parts_27 : decode cX6_parts 27 = .ok (.aload_n 0, 1) := by decide +kernel
theorem dX6_parts_28 : decode cX6_parts 28 = .ok (.getfield 19, 3) := by decide +kernel
theorem dX6_parts_31 : decode cX6_parts 31 = .ok (.iload_n 1, 1) := by decide +kernel
theorem dX6_parts_32 : decode cX6_parts 32 = .ok (.iload_n 2, 1) := by decide +kernel
theorem dX6_parts_33 : decode cX6_parts 33 = .ok (.aload_n 0, 1) := by decide +kernel
theorem dX6_parts_34 : decode cX6_parts 34 = .ok (.getfield 35, 3) := by decide +kernel
theorem dX6_parts_37 : decode cX6_parts 37 = .ok (.getfield 135, 3) := by decide +kernel
theorem dX6_parts_40 : decode cX6_parts 40 = .ok (.invokevirtual 191, 3) := by decide +kernel
theorem dX6_parts_43 : decode cX6_parts 43 = .ok (.ifCond .ne 14, 3) := by decide +kernel
theorem dX6_parts_46 : decode cX6_parts 46 = .ok (.iload_n 3, 1) := by decide +kernel
theorem dX6_parts_47 : decode cX6_parts 47 = .ok (.ifCond .ne 7, 3) := by decide +kernel
theorem dX6_parts_50 : decode cX6_parts 50 = .ok (.iconst 0, 1) := by decide +kernel
theorem dX6_parts_51 : decode cX6_parts 51 = .ok (.goto 5, 3) := by decide +kernel
theorem dX6_parts_54 : decode cX6_parts 54 = .ok (.bipush (-9), 2) := by decide +kernel
theorem dX6_parts_56 : decode cX6_parts 56 = .ok (.ireturn, 1) := by decide +kernel
theorem dX6_parts_57 : decode cX6_parts 57 = .ok (.iconst 1, 1) := by decide +kernel
theorem dX6_parts_58 : decode cX6_parts 58 = .ok (.istore 5, 2) := by decide +kernel
theorem dX6_parts_60 : decode cX6_parts 60 = .ok (.iload 5, 2) := by decide +kernel
theorem dX6_parts_62 : decode cX6_parts 62 = .ok (.bipush 9, 2) := by decide +kernel
theorem dX6_parts_64 : decode cX6_parts 64 = .ok (.if_icmp .gt 38, 3) := by decide +kernel
theorem dX6_parts_67 : decode cX6_parts 67 = .ok (.aload_n 0, 1) := by decide +kernel
theorem dX6_parts_68 : decode cX6_parts 68 = .ok (.iload_n 1, 1) := by decide +kernel
theorem dX6_parts_69 : decode cX6_parts 69 = .ok (.iload_n 2, 1) := by decide +kernel
theorem dX6_parts_70 : decode cX6_parts 70 = .ok (.iload 5, 2) := by decide +kernel
theorem dX6_parts_72 : decode cX6_parts 72 = .ok (.invokevirtual 195, 3) := by decide +kernel
theorem dX6_parts_75 : decode cX6_parts 75 = .ok (.istore 6, 2) := by decide +kernel
theorem dX6_parts_77 : decode cX6_parts 77 = .ok (.iload 6, 2) := by decide +kernel
theorem dX6_parts_79 : decode cX6_parts 79 = .ok (.bipush (-9), 2) := by decide +kernel
theorem dX6_parts_81 : decode cX6_parts 81 = .ok (.if_icmp .eq 15, 3) := by decide +kernel
theorem dX6_parts_84 : decode cX6_parts 84 = .ok (.iload_n 3, 1) := by decide +kernel
theorem dX6_parts_85 : decode cX6_parts 85 = .ok (.ifCond .ne 8, 3) := by decide +kernel
theorem dX6_parts_88 : decode cX6_parts 88 = .ok (.iload 5, 2) := by decide +kernel
theorem dX6_parts_90 : decode cX6_parts 90 = .ok (.goto 5, 3) := by decide +kernel
theorem dX6_parts_93 : decode cX6_parts 93 = .ok (.iload 6, 2) := by decide +kernel
theorem dX6_parts_95 : decode cX6_parts 95 = .ok (.ireturn, 1) := by decide +kernel
theorem dX6_parts_96 : decode cX6_parts 96 = .ok (.iinc 5 1, 3) := by decide +kernel
theorem dX6_parts_99 : decode cX6_parts 99 = .ok (.goto (-39), 3) := by decide +kernel
theorem dX6_parts_102 : decode cX6_parts 102 = .ok (.bipush (-9), 2) := by decide +kernel
theorem dX6_parts_104 : decode cX6_parts 104 = .ok (.ireturn, 1) := by decide +kernel
theorem dX6_letsGo_0 : decode cX6_letsGo 0 = .ok (.iload_n 1, 1) := by decide +kernel
theorem dX6_letsGo_1 : decode cX6_letsGo 1 = .ok (.ifCond .lt 16, 3) := by decide +kernel
theorem dX6_letsGo_4 : decode cX6_letsGo 4 = .ok (.iload_n 1, 1) := by decide +kernel
theorem dX6_letsGo_5 : decode cX6_letsGo 5 = .ok (.iconst 1, 1) := by decide +kernel
theorem dX6_letsGo_6 : decode cX6_letsGo 6 = .ok (.aload_n 0, 1) := by decide +kernel
theorem dX6_letsGo_7 : decode cX6_letsGo 7 = .ok (.getfield 19, 3) := by decide +kernel
theorem dX6_letsGo_10 : decode cX6_letsGo 10 = .ok (.getfield 103, 3) := by decide +kernel
theorem dX6_letsGo_13 : decode cX6_letsGo 13 = .ok (.ishl, 1) := by decide +kernel
theorem dX6_letsGo_14 : decode cX6_letsGo 14 = .ok (.if_icmp .lt 6, 3) := by decide +kernel
theorem dX6_letsGo_17 : decode cX6_letsGo 17 = .ok (.bipush (-2), 2) := by decide +kernel
theorem dX6_letsGo_19 : decode cX6_letsGo 19 = .ok (.ireturn, 1) := by decide +kernel
theorem dX6_letsGo_20 : decode cX6_letsGo 20 = .ok (.bipush (-9), 2) := by decide +kernel
theorem dX6_letsGo_22 : decode cX6_letsGo 22 = .ok (.istore_n 2, 1) := by decide +kernel
theorem dX6_letsGo_23 : decode cX6_letsGo 23 = .ok (.iconst 0, 1) := by decide +kernel
theorem dX6_letsGo_24 : decode cX6_letsGo 24 = .ok (.istore_n 3, 1) := by decide +kernel
theorem dX6_letsGo_25 : decode cX6_letsGo 25 = .ok (.iload_n 3, 1) := by decide +kernel
theorem dX6_letsGo_26 : decode cX6_letsGo 26 = .ok (.aload_n 0, 1) := by decide +kernel
theorem dX6_letsGo_27 : decode cX6_letsGo 27 = .ok (.getfield 19, 3) := by decide +kernel
theorem dX6_letsGo_30 : decode cX6_letsGo 30 = .ok (.invokevirtual 184, 3) := by decide +kernel
theorem dX6_letsGo_33 : decode cX6_letsGo 33 = .ok (.if_icmp .gt 42, 3) := by decide +kernel
theorem dX6_letsGo_36 : decode cX6_letsGo 36 = .ok (.aload_n 0, 1) := by decide +kernel
theorem dX6_letsGo_37 : decode cX6_letsGo 37 = .ok (.iload_n 3, 1) := by decide +kernel
theorem dX6_letsGo_38 : decode cX6_letsGo 38 = .ok (.iload_n 2, 1) := by decide +kernel
theorem dX6_letsGo_39 : decode cX6_letsGo 39 = .ok (.invokevirtual 187, 3) := by decide +kernel
theorem dX6_letsGo_42 : decode cX6_letsGo 42 = .ok (.ifCond .eq 27, 3) := by decide +kernel
theorem dX6_letsGo_45 : decode cX6_letsGo 45 = .ok (.aload_n 0, 1) := by decide +kernel
theorem dX6_letsGo_46 : decode cX6_letsGo 46 = .ok (.getfield 19, 3) := by decide +kernel
theorem dX6_letsGo_49 : decode cX6_letsGo 49 = .ok (.aload_n 0, 1) := by decide +kernel
theorem dX6_letsGo_50 : decode cX6_letsGo 50 = .ok (.getfield 35, 3) := by decide +kernel
theorem dX6_letsGo_53 : decode cX6_letsGo 53 = .ok (.getfield 135, 3) := by decide +kernel
theorem dX6_letsGo_56 : decode cX6_letsGo 56 = .ok (.iload_n 3, 1) := by decide +kernel
theorem dX6_letsGo_57 : decode cX6_letsGo 57 = .ok (.ior, 1) := by decide +kernel
theorem dX6_letsGo_58 : decode cX6_letsGo 58 = .ok (.invokevirtual 199, 3) := by decide +kernel
theorem dX6_letsGo_61 : decode cX6_letsGo 61 = .ok (.iload_n 1, 1) := by decide +kernel
theorem dX6_letsGo_62 : decode cX6_letsGo 62 = .ok (.iand, 1) := by decide +kernel
theorem dX6_letsGo_63 : decode cX6_letsGo 63 = .ok (.iload_n 1, 1) := by decide +kernel
theorem dX6_letsGo_64 : decode cX6_letsGo 64 = .ok (.if_icmp .ne 5, 3) := by decide +kernel
theorem dX6_letsGo_67 : decode cX6_letsGo 67 = .ok (.iload_n 3, 1) := by decide +kernel
theorem dX6_letsGo_68 : decode cX6_letsGo 68 = .ok (.istore_n 2, 1) := by decide +kernel
theorem dX6_letsGo_69 : decode cX6_letsGo 69 = .ok (.iinc 3 1, 3) := by decide +kernel
theorem dX6_letsGo_72 : decode cX6_letsGo 72 = .ok (.goto (-47), 3) := by decide +kernel
theorem dX6_letsGo_75 : decode cX6_letsGo 75 = .ok (.iload_n 2, 1) := by decide +kernel
theorem dX6_letsGo_76 : decode cX6_letsGo 76 = .ok (.ireturn, 1) := by decide +kernel
theorem dX6_judge_0 : decode cX6_judge 0 = .ok (.iload_n 1, 1) := by decide +kernel
theorem dX6_judge_1 : decode cX6_judge 1 = .ok (.iconst 1, 1) := by decide +kernel
theorem dX6_judge_2 : decode cX6_judge 2 = .ok (.if_icmp .lt 24, 3) := by decide +kernel
theorem dX6_judge_5 : decode cX6_judge 5 = .ok (.iload_n 1, 1) := by decide +kernel
theorem dX6_judge_6 : decode cX6_judge 6 = .ok (.iconst 4, 1) := by decide +kernel
theorem dX6_judge_7 : decode cX6_judge 7 = .ok (.if_icmp .gt 19, 3) := by decide +kernel
theorem dX6_judge_10 : decode cX6_judge 10 = .ok (.lload_n 2, 1) := by decide +kernel
theorem dX6_judge_11 : decode cX6_judge 11 = .ok (.lconst 0, 1) := by decide +kernel
theorem dX6_judge_12 : decode cX6_judge 12 = .ok (.lcmp, 1) := by decide +kernel
theorem dX6_judge_13 : decode cX6_judge 13 = .ok (.ifCond .lt 13, 3) := by decide +kernel
theorem dX6_judge_16 : decode cX6_judge 16 = .ok (.lload_n 2, 1) := by decide +kernel
theorem dX6_judge_17 : decode cX6_judge 17 = .ok (.getstatic 202, 3) := by decide +kernel
theorem dX6_judge_20 : decode cX6_judge 20 = .ok (.iload_n 1, 1) := by decide +kernel
theorem dX6_judge_21 : decode cX6_judge 21 = .ok (.laload, 1) := by decide +kernel
theorem dX6_judge_22 : decode cX6_judge 22 = .ok (.lcmp, 1) := by decide +kernel
theorem dX6_judge_23 : decode cX6_judge 23 = .ok (.ifCond .lt 6, 3) := by decide +kernel
theorem dX6_judge_26 : decode cX6_judge 26 = .ok (.bipush (-2), 2) := by decide +kernel
theorem dX6_judge_28 : decode cX6_judge 28 = .ok (.ireturn, 1) := by decide +kernel
theorem dX6_judge_29 : decode cX6_judge 29 = .ok (.aload_n 0, 1) := by decide +kernel
theorem dX6_judge_30 : decode cX6_judge 30 = .ok (.getfield 39, 3) := by decide +kernel
theorem dX6_judge_33 : decode cX6_judge 33 = .ok (.aload_n 0, 1) := by decide +kernel
theorem dX6_judge_34 : decode cX6_judge 34 = .ok (.getfield 35, 3) := by decide +kernel
theorem dX6_judge_37 : decode cX6_judge 37 = .ok (.invokevirtual 169, 3) := by decide +kernel
theorem dX6_judge_40 : decode cX6_judge 40 = .ok (.iconst 0, 1) := by decide +kernel
theorem dX6_judge_41 : decode cX6_judge 41 = .ok (.istore 4, 2) := by decide +kernel
theorem dX6_judge_43 : decode cX6_judge 43 = .ok (.iload 4, 2) := by decide +kernel
theorem dX6_judge_45 : decode cX6_judge 45 = .ok (.iload_n 1, 1) := by decide +kernel
theorem dX6_judge_46 : decode cX6_judge 46 = .ok (.if_icmp .ge 56, 3) := by decide +kernel
theorem dX6_judge_49 : decode cX6_judge 49 = .ok (.lload_n 2, 1) := by decide +kernel
theorem dX6_judge_50 : decode cX6_judge 50 = .ok (.getstatic 202, 3) := by decide +kernel
theorem dX6_judge_53 : decode cX6_judge 53 = .ok (.iload_n 1, 1) := by decide +kernel
theorem dX6_judge_54 : decode cX6_judge 54 = .ok (.iconst 1, 1) := by decide +kernel
theorem dX6_judge_55 : decode cX6_judge 55 = .ok (.isub, 1) := by decide +kernel
theorem dX6_judge_56 : decode cX6_judge 56 = .ok (.iload 4, 2) := by decide +kernel
theorem dX6_judge_58 : decode cX6_judge 58 = .ok (.isub, 1) := by decide +kernel
theorem dX6_judge_59 : decode cX6_judge 59 = .ok (.laload, 1) := by decide +kernel
theorem dX6_judge_60 : decode cX6_judge 60 = .ok (.ldiv, 1) := by decide +kernel
theorem dX6_judge_61 : decode cX6_judge 61 = .ok (.ldc2_w 206, 3) := by decide +kernel
theorem dX6_judge_64 : decode cX6_judge 64 = .ok (.lrem, 1) := by decide +kernel
theorem dX6_judge_65 : decode cX6_judge 65 = .ok (.l2i, 1) := by decide +kernel
theorem dX6_judge_66 : decode cX6_judge 66 = .ok (.istore 5, 2) := by decide +kernel
theorem dX6_judge_68 : decode cX6_judge 68 = .ok (.aload_n 0, 1) := by decide +kernel
theorem dX6_judge_69 : decode cX6_judge 69 = .ok (.iload 5, 2) := by decide +kernel
theorem dX6_judge_71 : decode cX6_judge 71 = .ok (.bipush 100, 2) := by decide +kernel
theorem dX6_judge_73 : decode cX6_judge 73 = .ok (.idiv, 1) := by decide +kernel
theorem dX6_judge_74 : decode cX6_judge 74 = .ok (.iload 5, 2) := by decide +kernel
theorem dX6_judge_76 : decode cX6_judge 76 = .ok (.bipush 10, 2) := by decide +kernel
theorem dX6_judge_78 : decode cX6_judge 78 = .ok (.idiv, 1) := by decide +kernel
theorem dX6_judge_79 : decode cX6_judge 79 = .ok (.bipush 10, 2) := by decide +kernel
theorem dX6_judge_81 : decode cX6_judge 81 = .ok (.irem, 1) := by decide +kernel
theorem dX6_judge_82 : decode cX6_judge 82 = .ok (.iload 5, 2) := by decide +kernel
theorem dX6_judge_84 : decode cX6_judge 84 = .ok (.bipush 10, 2) := by decide +kernel
theorem dX6_judge_86 : decode cX6_judge 86 = .ok (.irem, 1) := by decide +kernel
theorem dX6_judge_87 : decode cX6_judge 87 = .ok (.invokevirtual 208, 3) := by decide +kernel
theorem dX6_judge_90 : decode cX6_judge 90 = .ok (.ifCond .ne 6, 3) := by decide +kernel
theorem dX6_judge_93 : decode cX6_judge 93 = .ok (.iload 4, 2) := by decide +kernel
theorem dX6_judge_95 : decode cX6_judge 95 = .ok (.ireturn, 1) := by decide +kernel
theorem dX6_judge_96 : decode cX6_judge 96 = .ok (.iinc 4 1, 3) := by decide +kernel
theorem dX6_judge_99 : decode cX6_judge 99 = .ok (.goto (-56), 3) := by decide +kernel
theorem dX6_judge_102 : decode cX6_judge 102 = .ok (.bipush (-9), 2) := by decide +kernel
theorem dX6_judge_104 : decode cX6_judge 104 = .ok (.ireturn, 1) := by decide +kernel
theorem dX6_trial_0 : decode cX6_trial 0 = .ok (.iload_n 1, 1) := by decide +kernel
theorem dX6_trial_1 : decode cX6_trial 1 = .ok (.ifCond .lt 18, 3) := by decide +kernel
theorem dX6_trial_4 : decode cX6_trial 4 = .ok (.iload_n 1, 1) := by decide +kernel
theorem dX6_trial_5 : decode cX6_trial 5 = .ok (.bipush 12, 2) := by decide +kernel
theorem dX6_trial_7 : decode cX6_trial 7 = .ok (.if_icmp .gt 12, 3) := by decide +kernel
theorem dX6_trial_10 : decode cX6_trial 10 = .ok (.iload_n 2, 1) := by decide +kernel
theorem dX6_trial_11 : decode cX6_trial 11 = .ok (.ifCond .lt 8, 3) := by decide +kernel
theorem dX6_trial_14 : decode cX6_trial 14 = .ok (.iload_n 2, 1) := by decide +kernel
theorem dX6_trial_15 : decode cX6_trial 15 = .ok (.iconst 1, 1) := by decide +kernel
theorem dX6_trial_16 : decode cX6_trial 16 = .ok (.if_icmp .le 6, 3) := by decide +kernel
theorem dX6_trial_19 : decode cX6_trial 19 = .ok (.bipush (-2), 2) := by decide +kernel
theorem dX6_trial_21 : decode cX6_trial 21 = .ok (.ireturn, 1) := by decide +kernel
theorem dX6_trial_22 : decode cX6_trial 22 = .ok (.aload_n 0, 1) := by decide +kernel
theorem dX6_trial_23 : decode cX6_trial 23 = .ok (.getfield 60, 3) := by decide +kernel
theorem dX6_trial_26 : decode cX6_trial 26 = .ok (.getfield 211, 3) := by decide +kernel
theorem dX6_trial_29 : decode cX6_trial 29 = .ok (.bipush 6, 2) := by decide +kernel
theorem dX6_trial_31 : decode cX6_trial 31 = .ok (.if_icmp .lt 6, 3) := by decide +kernel
theorem dX6_trial_34 : decode cX6_trial 34 = .ok (.bipush (-4), 2) := by decide +kernel
theorem dX6_trial_36 : decode cX6_trial 36 = .ok (.ireturn, 1) := by decide +kernel
theorem dX6_trial_37 : decode cX6_trial 37 = .ok (.aload_n 0, 1) := by decide +kernel
theorem dX6_trial_38 : decode cX6_trial 38 = .ok (.getfield 60, 3) := by decide +kernel
theorem dX6_trial_41 : decode cX6_trial 41 = .ok (.iload_n 1, 1) := by decide +kernel
theorem dX6_trial_42 : decode cX6_trial 42 = .ok (.iload_n 2, 1) := by decide +kernel
theorem dX6_trial_43 : decode cX6_trial 43 = .ok (.iconst 1, 1) := by decide +kernel
theorem dX6_trial_44 : decode cX6_trial 44 = .ok (.if_icmp .ne 7, 3) := by decide +kernel
theorem dX6_trial_47 : decode cX6_trial 47 = .ok (.iconst 1, 1) := by decide +kernel
theorem dX6_trial_48 : decode cX6_trial 48 = .ok (.goto 4, 3) := by decide +kernel
theorem dX6_trial_51 : decode cX6_trial 51 = .ok (.iconst 0, 1) := by decide +kernel
theorem dX6_trial_52 : decode cX6_trial 52 = .ok (.invokevirtual 212, 3) := by decide +kernel
theorem dX6_trial_55 : decode cX6_trial 55 = .ok (.aload_n 0, 1) := by decide +kernel
theorem dX6_trial_56 : decode cX6_trial 56 = .ok (.getfield 60, 3) := by decide +kernel
theorem dX6_trial_59 : decode cX6_trial 59 = .ok (.getfield 211, 3) := by decide +kernel
theorem dX6_trial_62 : decode cX6_trial 62 = .ok (.ireturn, 1) := by decide +kernel
theorem dX6_untry_0 : decode cX6_untry 0 = .ok (.aload_n 0, 1) := by decide +kernel
theorem dX6_untry_1 : decode cX6_untry 1 = .ok (.getfield 60, 3) := by decide +kernel
theorem dX6_untry_4 : decode cX6_untry 4 = .ok (.getfield 211, 3) := by decide +kernel
theorem dX6_untry_7 : decode cX6_untry 7 = .ok (.istore_n 1, 1) := by decide +kernel
theorem dX6_untry_8 : decode cX6_untry 8 = .ok (.aload_n 0, 1) := by decide +kernel
theorem dX6_untry_9 : decode cX6_untry 9 = .ok (.getfield 60, 3) := by decide +kernel
theorem dX6_untry_12 : decode cX6_untry 12 = .ok (.iconst 0, 1) := by decide +kernel
theorem dX6_untry_13 : decode cX6_untry 13 = .ok (.putfield 211, 3) := by decide +kernel
theorem dX6_untry_16 : decode cX6_untry 16 = .ok (.iload_n 1, 1) := by decide +kernel
theorem dX6_untry_17 : decode cX6_untry 17 = .ok (.ireturn, 1) := by decide +kernel
theorem dX6_which_0 : decode cX6_which 0 = .ok (.iload_n 1, 1) := by decide +kernel
theorem dX6_which_1 : decode cX6_which 1 = .ok (.ifCond .lt 8, 3) := by decide +kernel
theorem dX6_which_4 : decode cX6_which 4 = .ok (.iload_n 1, 1) := by decide +kernel
theorem dX6_which_5 : decode cX6_which 5 = .ok (.iconst 1, 1) := by decide +kernel
theorem dX6_which_6 : decode cX6_which 6 = .ok (.if_icmp .le 6, 3) := by decide +kernel
theorem dX6_which_9 : decode cX6_which 9 = .ok (.bipush (-2), 2) := by decide +kernel
theorem dX6_which_11 : decode cX6_which 11 = .ok (.ireturn, 1) := by decide +kernel
theorem dX6_which_12 : decode cX6_which 12 = .ok (.iconst 0, 1) := by decide +kernel
theorem dX6_which_13 : decode cX6_which 13 = .ok (.istore_n 2, 1) := by decide +kernel
theorem dX6_which_14 : decode cX6_which 14 = .ok (.bipush (-9), 2) := by decide +kernel
theorem dX6_which_16 : decode cX6_which 16 = .ok (.istore_n 3, 1) := by decide +kernel
theorem dX6_which_17 : decode cX6_which 17 = .ok (.iconst 0, 1) := by decide +kernel
theorem dX6_which_18 : decode cX6_which 18 = .ok (.istore 4, 2) := by decide +kernel
theorem dX6_which_20 : decode cX6_which 20 = .ok (.iload 4, 2) := by decide +kernel
theorem dX6_which_22 : decode cX6_which 22 = .ok (.bipush 20, 2) := by decide +kernel
theorem dX6_which_24 : decode cX6_which 24 = .ok (.if_icmp .ge 43, 3) := by decide +kernel
theorem dX6_which_27 : decode cX6_which 27 = .ok (.aload_n 0, 1) := by decide +kernel
theorem dX6_which_28 : decode cX6_which 28 = .ok (.getfield 60, 3) := by decide +kernel
theorem dX6_which_31 : decode cX6_which 31 = .ok (.iload 4, 2) := by decide +kernel
theorem dX6_which_33 : decode cX6_which 33 = .ok (.bipush 10, 2) := by decide +kernel
theorem dX6_which_35 : decode cX6_which 35 = .ok (.idiv, 1) := by decide +kernel
theorem dX6_which_36 : decode cX6_which 36 = .ok (.iload 4, 2) := by decide +kernel
theorem dX6_which_38 : decode cX6_which 38 = .ok (.bipush 10, 2) := by decide +kernel
theorem dX6_which_40 : decode cX6_which 40 = .ok (.irem, 1) := by decide +kernel
theorem dX6_which_41 : decode cX6_which 41 = .ok (.invokevirtual 215, 3) := by decide +kernel
theorem dX6_which_44 : decode cX6_which 44 = .ok (.ifCond .eq 17, 3) := by decide +kernel
theorem dX6_which_47 : decode cX6_which 47 = .ok (.iload_n 2, 1) := by decide +kernel
theorem dX6_which_48 : decode cX6_which 48 = .ok (.ifCond .ne 8, 3) := by decide +kernel
theorem dX6_which_51 : decode cX6_which 51 = .ok (.iload 4, 2) := by decide +kernel
theorem dX6_which_53 : decode cX6_which 53 = .ok (.goto 4, 3) := by decide +kernel
theorem dX6_which_56 : decode cX6_which 56 = .ok (.iload_n 3, 1) := by decide +kernel
theorem dX6_which_57 : decode cX6_which 57 = .ok (.istore_n 3, 1) := by decide +kernel
theorem dX6_which_58 : decode cX6_which 58 = .ok (.iinc 2 1, 3) := by decide +kernel
theorem dX6_which_61 : decode cX6_which 61 = .ok (.iinc 4 1, 3) := by decide +kernel
theorem dX6_which_64 : decode cX6_which 64 = .ok (.goto (-44), 3) := by decide +kernel
theorem dX6_which_67 : decode cX6_which 67 = .ok (.iload_n 1, 1) := by decide +kernel
theorem dX6_which_68 : decode cX6_which 68 = .ok (.ifCond .ne 7, 3) := by decide +kernel
theorem dX6_which_71 : decode cX6_which 71 = .ok (.iload_n 2, 1) := by decide +kernel
theorem dX6_which_72 : decode cX6_which 72 = .ok (.goto 4, 3) := by decide +kernel
theorem dX6_which_75 : decode cX6_which 75 = .ok (.iload_n 3, 1) := by decide +kernel
theorem dX6_which_76 : decode cX6_which 76 = .ok (.ireturn, 1) := by decide +kernel
theorem dX6_share_0 : decode cX6_share 0 = .ok (.aload_n 0, 1) := by decide +kernel
theorem dX6_share_1 : decode cX6_share 1 = .ok (.iload_n 1, 1) := by decide +kernel
theorem dX6_share_2 : decode cX6_share 2 = .ok (.invokevirtual 106, 3) := by decide +kernel
theorem dX6_share_5 : decode cX6_share 5 = .ok (.ifCond .ne 5, 3) := by decide +kernel
theorem dX6_share_8 : decode cX6_share 8 = .ok (.iconst (-1), 1) := by decide +kernel
theorem dX6_share_9 : decode cX6_share 9 = .ok (.ireturn, 1) := by decide +kernel
theorem dX6_share_10 : decode cX6_share 10 = .ok (.aload_n 0, 1) := by decide +kernel
theorem dX6_share_11 : decode cX6_share 11 = .ok (.getfield 19, 3) := by decide +kernel
theorem dX6_share_14 : decode cX6_share 14 = .ok (.invokevirtual 184, 3) := by decide +kernel
theorem dX6_share_17 : decode cX6_share 17 = .ok (.aload_n 0, 1) := by decide +kernel
theorem dX6_share_18 : decode cX6_share 18 = .ok (.getfield 35, 3) := by decide +kernel
theorem dX6_share_21 : decode cX6_share 21 = .ok (.getfield 135, 3) := by decide +kernel
theorem dX6_share_24 : decode cX6_share 24 = .ok (.iconst (-1), 1) := by decide +kernel
theorem dX6_share_25 : decode cX6_share 25 = .ok (.ixor, 1) := by decide +kernel
theorem dX6_share_26 : decode cX6_share 26 = .ok (.iand, 1) := by decide +kernel
theorem dX6_share_27 : decode cX6_share 27 = .ok (.istore_n 3, 1) := by decide +kernel
theorem dX6_share_28 : decode cX6_share 28 = .ok (.iload_n 3, 1) := by decide +kernel
theorem dX6_share_29 : decode cX6_share 29 = .ok (.iconst 1, 1) := by decide +kernel
theorem dX6_share_30 : decode cX6_share 30 = .ok (.iload_n 1, 1) := by decide +kernel
theorem dX6_share_31 : decode cX6_share 31 = .ok (.ishl, 1) := by decide +kernel
theorem dX6_share_32 : decode cX6_share 32 = .ok (.iand, 1) := by decide +kernel
theorem dX6_share_33 : decode cX6_share 33 = .ok (.ifCond .ne 10, 3) := by decide +kernel
theorem dX6_share_36 : decode cX6_share 36 = .ok (.lconst 0, 1) := by decide +kernel
theorem dX6_share_37 : decode cX6_share 37 = .ok (.lconst 1, 1) := by decide +kernel
theorem dX6_share_38 : decode cX6_share 38 = .ok (.iload_n 2, 1) := by decide +kernel
theorem dX6_share_39 : decode cX6_share 39 = .ok (.invokestatic 218, 3) := by decide +kernel
theorem dX6_share_42 : decode cX6_share 42 = .ok (.ireturn, 1) := by decide +kernel
theorem dX6_share_43 : decode cX6_share 43 = .ok (.iload_n 3, 1) := by decide +kernel
theorem dX6_share_44 : decode cX6_share 44 = .ok (.invokestatic 156, 3) := by decide +kernel
theorem dX6_share_47 : decode cX6_share 47 = .ok (.istore 4, 2) := by decide +kernel
theorem dX6_share_49 : decode cX6_share 49 = .ok (.aload_n 0, 1) := by decide +kernel
theorem dX6_share_50 : decode cX6_share 50 = .ok (.iload_n 1, 1) := by decide +kernel
theorem dX6_share_51 : decode cX6_share 51 = .ok (.iload_n 3, 1) := by decide +kernel
theorem dX6_share_52 : decode cX6_share 52 = .ok (.iload 4, 2) := by decide +kernel
theorem dX6_share_54 : decode cX6_share 54 = .ok (.invokevirtual 222, 3) := by decide +kernel
theorem dX6_share_57 : decode cX6_share 57 = .ok (.getstatic 226, 3) := by decide +kernel
theorem dX6_share_60 : decode cX6_share 60 = .ok (.iload 4, 2) := by decide +kernel
theorem dX6_share_62 : decode cX6_share 62 = .ok (.iaload, 1) := by decide +kernel
theorem dX6_share_63 : decode cX6_share 63 = .ok (.i2l, 1) := by decide +kernel
theorem dX6_share_64 : decode cX6_share 64 = .ok (.iload_n 2, 1) := by decide +kernel
theorem dX6_share_65 : decode cX6_share 65 = .ok (.invokestatic 218, 3) := by decide +kernel
theorem dX6_share_68 : decode cX6_share 68 = .ok (.ireturn, 1) := by decide +kernel
theorem dX6_rests_0 : decode cX6_rests 0 = .ok (.iload_n 1, 1) := by decide +kernel
theorem dX6_rests_1 : decode cX6_rests 1 = .ok (.iload_n 2, 1) := by decide +kernel
theorem dX6_rests_2 : decode cX6_rests 2 = .ok (.invokestatic 181, 3) := by decide +kernel
theorem dX6_rests_5 : decode cX6_rests 5 = .ok (.istore 4, 2) := by decide +kernel
theorem dX6_rests_7 : decode cX6_rests 7 = .ok (.iload 4, 2) := by decide +kernel
theorem dX6_rests_9 : decode cX6_rests 9 = .ok (.ifCond .eq 6, 3) := by decide +kernel
theorem dX6_rests_12 : decode cX6_rests 12 = .ok (.iload 4, 2) := by decide +kernel
theorem dX6_rests_14 : decode cX6_rests 14 = .ok (.ireturn, 1) := by decide +kernel
theorem dX6_rests_15 : decode cX6_rests 15 = .ok (.iload_n 3, 1) := by decide +kernel
theorem dX6_rests_16 : decode cX6_rests 16 = .ok (.ifCond .lt 8, 3) := by decide +kernel
theorem dX6_rests_19 : decode cX6_rests 19 = .ok (.iload_n 3, 1) := by decide +kernel
theorem dX6_rests_20 : decode cX6_rests 20 = .ok (.iconst 1, 1) := by decide +kernel
theorem dX6_rests_21 : decode cX6_rests 21 = .ok (.if_icmp .le 6, 3) := by decide +kernel
theorem dX6_rests_24 : decode cX6_rests 24 = .ok (.bipush (-2), 2) := by decide +kernel
theorem dX6_rests_26 : decode cX6_rests 26 = .ok (.ireturn, 1) := by decide +kernel
theorem dX6_rests_27 : decode cX6_rests 27 = .ok (.aload_n 0, 1) := by decide +kernel
theorem dX6_rests_28 : decode cX6_rests 28 = .ok (.iload_n 1, 1) := by decide +kernel
theorem dX6_rests_29 : decode cX6_rests 29 = .ok (.iload_n 2, 1) := by decide +kernel
theorem dX6_rests_30 : decode cX6_rests 30 = .ok (.invokevirtual 229, 3) := by decide +kernel
theorem dX6_rests_33 : decode cX6_rests 33 = .ok (.iconst 0, 1) := by decide +kernel
theorem dX6_rests_34 : decode cX6_rests 34 = .ok (.istore 5, 2) := by decide +kernel
theorem dX6_rests_36 : decode cX6_rests 36 = .ok (.bipush (-9), 2) := by decide +kernel
theorem dX6_rests_38 : decode cX6_rests 38 = .ok (.istore 6, 2) := by decide +kernel
theorem dX6_rests_40 : decode cX6_rests 40 = .ok (.iconst 0, 1) := by decide +kernel
theorem dX6_rests_41 : decode cX6_rests 41 = .ok (.istore 7, 2) := by decide +kernel
theorem dX6_rests_43 : decode cX6_rests 43 = .ok (.iload 7, 2) := by decide +kernel
theorem dX6_rests_45 : decode cX6_rests 45 = .ok (.iconst 3, 1) := by decide +kernel
theorem dX6_rests_46 : decode cX6_rests 46 = .ok (.if_icmp .ge 58, 3) := by decide +kernel
theorem dX6_rests_49 : decode cX6_rests 49 = .ok (.iconst 0, 1) := by decide +kernel
theorem dX6_rests_50 : decode cX6_rests 50 = .ok (.istore 8, 2) := by decide +kernel
theorem dX6_rests_52 : decode cX6_rests 52 = .ok (.iload 8, 2) := by decide +kernel
theorem dX6_rests_54 : decode cX6_rests 54 = .ok (.iconst 3, 1) := by decide +kernel
theorem dX6_rests_55 : decode cX6_rests 55 = .ok (.if_icmp .ge 43, 3) := by decide +kernel
theorem dX6_rests_58 : decode cX6_rests 58 = .ok (.aload_n 0, 1) := by decide +kernel
theorem dX6_rests_59 : decode cX6_rests 59 = .ok (.iload 7, 2) := by decide +kernel
theorem dX6_rests_61 : decode cX6_rests 61 = .ok (.iload 8, 2) := by decide +kernel
theorem dX6_rests_63 : decode cX6_rests 63 = .ok (.invokevirtual 233, 3) := by decide +kernel
theorem dX6_rests_66 : decode cX6_rests 66 = .ok (.ifCond .eq 26, 3) := by decide +kernel
theorem dX6_rests_69 : decode cX6_rests 69 = .ok (.iload 5, 2) := by decide +kernel
theorem dX6_rests_71 : decode cX6_rests 71 = .ok (.ifCond .ne 14, 3) := by decide +kernel
theorem dX6_rests_74 : decode cX6_rests 74 = .ok (.bipush 10, 2) := by decide +kernel
theorem dX6_rests_76 : decode cX6_rests 76 = .ok (.iload 7, 2) := by decide +kernel
theorem dX6_rests_78 : decode cX6_rests 78 = .ok (.imul, 1) := by decide +kernel
theorem dX6_rests_79 : decode cX6_rests 79 = .ok (.iload 8, 2) := by decide +kernel
theorem dX6_rests_81 : decode cX6_rests 81 = .ok (.iadd, 1) := by decide +kernel
theorem dX6_rests_82 : decode cX6_rests 82 = .ok (.goto 5, 3) := by decide +kernel
theorem dX6_rests_85 : decode cX6_rests 85 = .ok (.iload 6, 2) := by decide +kernel
theorem dX6_rests_87 : decode cX6_rests 87 = .ok (.istore 6, 2) := by decide +kernel
theorem dX6_rests_89 : decode cX6_rests 89 = .ok (.iinc 5 1, 3) := by decide +kernel
theorem dX6_rests_92 : decode cX6_rests 92 = .ok (.iinc 8 1, 3) := by decide +kernel
theorem dX6_rests_95 : decode cX6_rests 95 = .ok (.goto (-43), 3) := by decide +kernel
theorem dX6_rests_98 : decode cX6_rests 98 = .ok (.iinc 7 1, 3) := by decide +kernel
theorem dX6_rests_101 : decode cX6_rests 101 = .ok (.goto (-58), 3) := by decide +kernel
theorem dX6_rests_104 : decode cX6_rests 104 = .ok (.iload_n 3, 1) := by decide +kernel
theorem dX6_rests_105 : decode cX6_rests 105 = .ok (.ifCond .ne 8, 3) := by decide +kernel
theorem dX6_rests_108 : decode cX6_rests 108 = .ok (.iload 5, 2) := by decide +kernel
theorem dX6_rests_110 : decode cX6_rests 110 = .ok (.goto 5, 3) := by decide +kernel
theorem dX6_rests_113 : decode cX6_rests 113 = .ok (.iload 6, 2) := by decide +kernel
theorem dX6_rests_115 : decode cX6_rests 115 = .ok (.ireturn, 1) := by decide +kernel
theorem dX6_gives_0 : decode cX6_gives 0 = .ok (.iload_n 1, 1) := by decide +kernel
theorem dX6_gives_1 : decode cX6_gives 1 = .ok (.iload_n 2, 1) := by decide +kernel
theorem dX6_gives_2 : decode cX6_gives 2 = .ok (.invokestatic 181, 3) := by decide +kernel
theorem dX6_gives_5 : decode cX6_gives 5 = .ok (.istore 5, 2) := by decide +kernel
theorem dX6_gives_7 : decode cX6_gives 7 = .ok (.iload 5, 2) := by decide +kernel
theorem dX6_gives_9 : decode cX6_gives 9 = .ok (.ifCond .eq 6, 3) := by decide +kernel
theorem dX6_gives_12 : decode cX6_gives 12 = .ok (.iload 5, 2) := by decide +kernel
theorem dX6_gives_14 : decode cX6_gives 14 = .ok (.ireturn, 1) := by decide +kernel
theorem dX6_gives_15 : decode cX6_gives 15 = .ok (.iload_n 3, 1) := by decide +kernel
theorem dX6_gives_16 : decode cX6_gives 16 = .ok (.ifCond .lt 9, 3) := by decide +kernel
theorem dX6_gives_19 : decode cX6_gives 19 = .ok (.iload_n 3, 1) := by decide +kernel
theorem dX6_gives_20 : decode cX6_gives 20 = .ok (.bipush 10, 2) := by decide +kernel
theorem dX6_gives_22 : decode cX6_gives 22 = .ok (.if_icmp .le 6, 3) := by decide +kernel
theorem dX6_gives_25 : decode cX6_gives 25 = .ok (.bipush (-2), 2) := by decide +kernel
theorem dX6_gives_27 : decode cX6_gives 27 = .ok (.ireturn, 1) := by decide +kernel
theorem dX6_gives_28 : decode cX6_gives 28 = .ok (.aload_n 0, 1) := by decide +kernel
theorem dX6_gives_29 : decode cX6_gives 29 = .ok (.getfield 19, 3) := by decide +kernel
theorem dX6_gives_32 : decode cX6_gives 32 = .ok (.invokevirtual 184, 3) := by decide +kernel
theorem dX6_gives_35 : decode cX6_gives 35 = .ok (.aload_n 0, 1) := by decide +kernel
theorem dX6_gives_36 : decode cX6_gives 36 = .ok (.getfield 35, 3) := by decide +kernel
theorem dX6_gives_39 : decode cX6_gives 39 = .ok (.getfield 135, 3) := by decide +kernel
theorem dX6_gives_42 : decode cX6_gives 42 = .ok (.iconst (-1), 1) := by decide +kernel
theorem dX6_gives_43 : decode cX6_gives 43 = .ok (.ixor, 1) := by decide +kernel
theorem dX6_gives_44 : decode cX6_gives 44 = .ok (.iand, 1) := by decide +kernel
theorem dX6_gives_45 : decode cX6_gives 45 = .ok (.istore 6, 2) := by decide +kernel
theorem dX6_gives_47 : decode cX6_gives 47 = .ok (.bipush 10, 2) := by decide +kernel
theorem dX6_gives_49 : decode cX6_gives 49 = .ok (.iload 6, 2) := by decide +kernel
theorem dX6_gives_51 : decode cX6_gives 51 = .ok (.invokestatic 156, 3) := by decide +kernel
theorem dX6_gives_54 : decode cX6_gives 54 = .ok (.invokestatic 236, 3) := by decide +kernel
theorem dX6_gives_57 : decode cX6_gives 57 = .ok (.lstore 7, 2) := by decide +kernel
theorem dX6_gives_59 : decode cX6_gives 59 = .ok (.lconst 0, 1) := by decide +kernel
theorem dX6_gives_60 : decode cX6_gives 60 = .ok (.lstore 9, 2) := by decide +kernel
theorem dX6_gives_62 : decode cX6_gives 62 = .ok (.iconst 0, 1) := by decide +kernel
theorem dX6_gives_63 : decode cX6_gives 63 = .ok (.istore 11, 2) := by decide +kernel
theorem dX6_gives_65 : decode cX6_gives 65 = .ok (.iload 11, 2) := by decide +kernel
theorem dX6_gives_67 : decode cX6_gives 67 = .ok (.aload_n 0, 1) := by decide +kernel
theorem dX6_gives_68 : decode cX6_gives 68 = .ok (.getfield 19, 3) := by decide +kernel
theorem dX6_gives_71 : decode cX6_gives 71 = .ok (.invokevirtual 184, 3) := by decide +kernel
theorem dX6_gives_74 : decode cX6_gives 74 = .ok (.if_icmp .gt 77, 3) := by decide +kernel
theorem dX6_gives_77 : decode cX6_gives 77 = .ok (.iload 11, 2) := by decide +kernel
theorem dX6_gives_79 : decode cX6_gives 79 = .ok (.iload 6, 2) := by decide +kernel
theorem dX6_gives_81 : decode cX6_gives 81 = .ok (.iconst (-1), 1) := by decide +kernel
theorem dX6_gives_82 : decode cX6_gives 82 = .ok (.ixor, 1) := by decide +kernel
theorem dX6_gives_83 : decode cX6_gives 83 = .ok (.iand, 1) := by decide +kernel
theorem dX6_gives_84 : decode cX6_gives 84 = .ok (.ifCond .ne 61, 3) := by decide +kernel
theorem dX6_gives_87 : decode cX6_gives 87 = .ok (.aload_n 0, 1) := by decide +kernel
theorem dX6_gives_88 : decode cX6_gives 88 = .ok (.getfield 19, 3) := by decide +kernel
theorem dX6_gives_91 : decode cX6_gives 91 = .ok (.iload_n 1, 1) := by decide +kernel
theorem dX6_gives_92 : decode cX6_gives 92 = .ok (.iload_n 2, 1) := by decide +kernel
theorem dX6_gives_93 : decode cX6_gives 93 = .ok (.aload_n 0, 1) := by decide +kernel
theorem dX6_gives_94 : decode cX6_gives 94 = .ok (.getfield 35, 3) := by decide +kernel
theorem dX6_gives_97 : decode cX6_gives 97 = .ok (.getfield 135, 3) := by decide +kernel
theorem dX6_gives_100 : decode cX6_gives 100 = .ok (.iload 11, 2) := by decide +kernel
theorem dX6_gives_102 : decode cX6_gives 102 = .ok (.ior, 1) := by decide +kernel
theorem dX6_gives_103 : decode cX6_gives 103 = .ok (.invokevirtual 191, 3) := by decide +kernel
theorem dX6_gives_106 : decode cX6_gives 106 = .ok (.ifCond .eq 39, 3) := by decide +kernel
theorem dX6_gives_109 : decode cX6_gives 109 = .ok (.iload 6, 2) := by decide +kernel
theorem dX6_gives_111 : decode cX6_gives 111 = .ok (.iload 11, 2) := by decide +kernel
theorem dX6_gives_113 : decode cX6_gives 113 = .ok (.iconst (-1), 1) := by decide +kernel
theorem dX6_gives_114 : decode cX6_gives 114 = .ok (.ixor, 1) := by decide +kernel
theorem dX6_gives_115 : decode cX6_gives 115 = .ok (.iand, 1) := by decide +kernel
theorem dX6_gives_116 : decode cX6_gives 116 = .ok (.invokestatic 156, 3) := by decide +kernel
theorem dX6_gives_119 : decode cX6_gives 119 = .ok (.istore 12, 2) := by decide +kernel
theorem dX6_gives_121 : decode cX6_gives 121 = .ok (.lload 9, 2) := by decide +kernel
theorem dX6_gives_123 : decode cX6_gives 123 = .ok (.iload_n 3, 1) := by decide +kernel
theorem dX6_gives_124 : decode cX6_gives 124 = .ok (.iload 11, 2) := by decide +kernel
theorem dX6_gives_126 : decode cX6_gives 126 = .ok (.invokestatic 156, 3) := by decide +kernel
theorem dX6_gives_129 : decode cX6_gives 129 = .ok (.invokestatic 236, 3) := by decide +kernel
theorem dX6_gives_132 : decode cX6_gives 132 = .ok (.bipush 10, 2) := by decide +kernel
theorem dX6_gives_134 : decode cX6_gives 134 = .ok (.iload_n 3, 1) := by decide +kernel
theorem dX6_gives_135 : decode cX6_gives 135 = .ok (.isub, 1) := by decide +kernel
theorem dX6_gives_136 : decode cX6_gives 136 = .ok (.iload 12, 2) := by decide +kernel
theorem dX6_gives_138 : decode cX6_gives 138 = .ok (.invokestatic 236, 3) := by decide +kernel
theorem dX6_gives_141 : decode cX6_gives 141 = .ok (.lmul, 1) := by decide +kernel
theorem dX6_gives_142 : decode cX6_gives 142 = .ok (.ladd, 1) := by decide +kernel
theorem dX6_gives_143 : decode cX6_gives 143 = .ok (.lstore 9, 2) := by decide +kernel
theorem dX6_gives_145 : decode cX6_gives 145 = .ok (.iinc 11 1, 3) := by decide +kernel
theorem dX6_gives_148 : decode cX6_gives 148 = .ok (.goto (-83), 3) := by decide +kernel
theorem dX6_gives_151 : decode cX6_gives 151 = .ok (.lload 9, 2) := by decide +kernel
theorem dX6_gives_153 : decode cX6_gives 153 = .ok (.lload 7, 2) := by decide +kernel
theorem dX6_gives_155 : decode cX6_gives 155 = .ok (.iload 4, 2) := by decide +kernel
theorem dX6_gives_157 : decode cX6_gives 157 = .ok (.invokestatic 218, 3) := by decide +kernel
theorem dX6_gives_160 : decode cX6_gives 160 = .ok (.ireturn, 1) := by decide +kernel
theorem dX6_seed_0 : decode cX6_seed 0 = .ok (.aload_n 0, 1) := by decide +kernel
theorem dX6_seed_1 : decode cX6_seed 1 = .ok (.getfield 71, 3) := by decide +kernel
theorem dX6_seed_4 : decode cX6_seed 4 = .ok (.lstore_n 3, 1) := by decide +kernel
theorem dX6_seed_5 : decode cX6_seed 5 = .ok (.aload_n 0, 1) := by decide +kernel
theorem dX6_seed_6 : decode cX6_seed 6 = .ok (.lload_n 1, 1) := by decide +kernel
theorem dX6_seed_7 : decode cX6_seed 7 = .ok (.putfield 71, 3) := by decide +kernel
theorem dX6_seed_10 : decode cX6_seed 10 = .ok (.lload_n 3, 1) := by decide +kernel
theorem dX6_seed_11 : decode cX6_seed 11 = .ok (.lreturn, 1) := by decide +kernel
theorem dX6_seasons_0 : decode cX6_seasons 0 = .ok (.iload_n 1, 1) := by decide +kernel
theorem dX6_seasons_1 : decode cX6_seasons 1 = .ok (.iconst 1, 1) := by decide +kernel
theorem dX6_seasons_2 : decode cX6_seasons 2 = .ok (.if_icmp .lt 9, 3) := by decide +kernel
theorem dX6_seasons_5 : decode cX6_seasons 5 = .ok (.iload_n 1, 1) := by decide +kernel
theorem dX6_seasons_6 : decode cX6_seasons 6 = .ok (.bipush 30, 2) := by decide +kernel
theorem dX6_seasons_8 : decode cX6_seasons 8 = .ok (.if_icmp .le 6, 3) := by decide +kernel
theorem dX6_seasons_11 : decode cX6_seasons 11 = .ok (.bipush (-2), 2) := by decide +kernel
theorem dX6_seasons_13 : decode cX6_seasons 13 = .ok (.ireturn, 1) := by decide +kernel
theorem dX6_seasons_14 : decode cX6_seasons 14 = .ok (.aload_n 0, 1) := by decide +kernel
theorem dX6_seasons_15 : decode cX6_seasons 15 = .ok (.getfield 39, 3) := by decide +kernel
theorem dX6_seasons_18 : decode cX6_seasons 18 = .ok (.aload_n 0, 1) := by decide +kernel
theorem dX6_seasons_19 : decode cX6_seasons 19 = .ok (.getfield 35, 3) := by decide +kernel
theorem dX6_seasons_22 : decode cX6_seasons 22 = .ok (.invokevirtual 169, 3) := by decide +kernel
theorem dX6_seasons_25 : decode cX6_seasons 25 = .ok (.iconst 0, 1) := by decide +kernel
theorem dX6_seasons_26 : decode cX6_seasons 26 = .ok (.istore_n 2, 1) := by decide +kernel
theorem dX6_seasons_27 : decode cX6_seasons 27 = .ok (.iconst 0, 1) := by decide +kernel
theorem dX6_seasons_28 : decode cX6_seasons 28 = .ok (.istore_n 3, 1) := by decide +kernel
theorem dX6_seasons_29 : decode cX6_seasons 29 = .ok (.iload_n 3, 1) := by decide +kernel
theorem dX6_seasons_30 : decode cX6_seasons 30 = .ok (.iload_n 1, 1) := by decide +kernel
theorem dX6_seasons_31 : decode cX6_seasons 31 = .ok (.if_icmp .ge 53, 3) := by decide +kernel
theorem dX6_seasons_34 : decode cX6_seasons 34 = .ok (.aload_n 0, 1) := by decide +kernel
theorem dX6_seasons_35 : decode cX6_seasons 35 = .ok (.aload_n 0, 1) := by decide +kernel
theorem dX6_seasons_36 : decode cX6_seasons 36 = .ok (.getfield 71, 3) := by decide +kernel
theorem dX6_seasons_39 : decode cX6_seasons 39 = .ok (.ldc2_w 240, 3) := by decide +kernel
theorem dX6_seasons_42 : decode cX6_seasons 42 = .ok (.lmul, 1) := by decide +kernel
theorem dX6_seasons_43 : decode cX6_seasons 43 = .ok (.ldc2_w 242, 3) := by decide +kernel
theorem dX6_seasons_46 : decode cX6_seasons 46 = .ok (.ladd, 1) := by decide +kernel
theorem dX6_seasons_47 : decode cX6_seasons 47 = .ok (.putfield 71, 3) := by decide +kernel
theorem dX6_seasons_50 : decode cX6_seasons 50 = .ok (.aload_n 0, 1) := by decide +kernel
theorem dX6_seasons_51 : decode cX6_seasons 51 = .ok (.aload_n 0, 1) := by decide +kernel
theorem dX6_seasons_52 : decode cX6_seasons 52 = .ok (.getfield 71, 3) := by decide +kernel
theorem dX6_seasons_55 : decode cX6_seasons 55 = .ok (.bipush 33, 2) := by decide +kernel
theorem dX6_seasons_57 : decode cX6_seasons 57 = .ok (.lushr, 1) := by decide +kernel
theorem dX6_seasons_58 : decode cX6_seasons 58 = .ok (.l2i, 1) := by decide +kernel
theorem dX6_seasons_59 : decode cX6_seasons 59 = .ok (.bipush 31, 2) := by decide +kernel
theorem dX6_seasons_61 : decode cX6_seasons 61 = .ok (.iand, 1) := by decide +kernel
theorem dX6_seasons_62 : decode cX6_seasons 62 = .ok (.invokevirtual 244, 3) := by decide +kernel
theorem dX6_seasons_65 : decode cX6_seasons 65 = .ok (.iload_n 2, 1) := by decide +kernel
theorem dX6_seasons_66 : decode cX6_seasons 66 = .ok (.aload_n 0, 1) := by decide +kernel
theorem dX6_seasons_67 : decode cX6_seasons 67 = .ok (.getfield 39, 3) := by decide +kernel
theorem dX6_seasons_70 : decode cX6_seasons 70 = .ok (.getfield 135, 3) := by decide +kernel
theorem dX6_seasons_73 : decode cX6_seasons 73 = .ok (.invokestatic 156, 3) := by decide +kernel
theorem dX6_seasons_76 : decode cX6_seasons 76 = .ok (.iadd, 1) := by decide +kernel
theorem dX6_seasons_77 : decode cX6_seasons 77 = .ok (.istore_n 2, 1) := by decide +kernel
theorem dX6_seasons_78 : decode cX6_seasons 78 = .ok (.iinc 3 1, 3) := by decide +kernel
theorem dX6_seasons_81 : decode cX6_seasons 81 = .ok (.goto (-52), 3) := by decide +kernel
theorem dX6_seasons_84 : decode cX6_seasons 84 = .ok (.iload_n 2, 1) := by decide +kernel
theorem dX6_seasons_85 : decode cX6_seasons 85 = .ok (.ireturn, 1) := by decide +kernel
theorem dX6_keep_0 : decode cX6_keep 0 = .ok (.iload_n 1, 1) := by decide +kernel
theorem dX6_keep_1 : decode cX6_keep 1 = .ok (.ifCond .lt 8, 3) := by decide +kernel
theorem dX6_keep_4 : decode cX6_keep 4 = .ok (.iload_n 1, 1) := by decide +kernel
theorem dX6_keep_5 : decode cX6_keep 5 = .ok (.iconst 2, 1) := by decide +kernel
theorem dX6_keep_6 : decode cX6_keep 6 = .ok (.if_icmp .lt 5, 3) := by decide +kernel
theorem dX6_keep_9 : decode cX6_keep 9 = .ok (.iconst (-1), 1) := by decide +kernel
theorem dX6_keep_10 : decode cX6_keep 10 = .ok (.ireturn, 1) := by decide +kernel
theorem dX6_keep_11 : decode cX6_keep 11 = .ok (.aload_n 0, 1) := by decide +kernel
theorem dX6_keep_12 : decode cX6_keep 12 = .ok (.getfield 49, 3) := by decide +kernel
theorem dX6_keep_15 : decode cX6_keep 15 = .ok (.iload_n 1, 1) := by decide +kernel
theorem dX6_keep_16 : decode cX6_keep 16 = .ok (.aaload, 1) := by decide +kernel
theorem dX6_keep_17 : decode cX6_keep 17 = .ok (.aload_n 0, 1) := by decide +kernel
theorem dX6_keep_18 : decode cX6_keep 18 = .ok (.getfield 35, 3) := by decide +kernel
theorem dX6_keep_21 : decode cX6_keep 21 = .ok (.invokevirtual 169, 3) := by decide +kernel
theorem dX6_keep_24 : decode cX6_keep 24 = .ok (.aload_n 0, 1) := by decide +kernel
theorem dX6_keep_25 : decode cX6_keep 25 = .ok (.getfield 53, 3) := by decide +kernel
theorem dX6_keep_28 : decode cX6_keep 28 = .ok (.iload_n 1, 1) := by decide +kernel
theorem dX6_keep_29 : decode cX6_keep 29 = .ok (.iconst 1, 1) := by decide +kernel
theorem dX6_keep_30 : decode cX6_keep 30 = .ok (.bastore, 1) := by decide +kernel
theorem dX6_keep_31 : decode cX6_keep 31 = .ok (.aload_n 0, 1) := by decide +kernel
theorem dX6_keep_32 : decode cX6_keep 32 = .ok (.getfield 35, 3) := by decide +kernel
theorem dX6_keep_35 : decode cX6_keep 35 = .ok (.getfield 247, 3) := by decide +kernel
theorem dX6_keep_38 : decode cX6_keep 38 = .ok (.ireturn, 1) := by decide +kernel
theorem dX6_again_0 : decode cX6_again 0 = .ok (.iload_n 1, 1) := by decide +kernel
theorem dX6_again_1 : decode cX6_again 1 = .ok (.ifCond .lt 8, 3) := by decide +kernel
theorem dX6_again_4 : decode cX6_again 4 = .ok (.iload_n 1, 1) := by decide +kernel
theorem dX6_again_5 : decode cX6_again 5 = .ok (.iconst 2, 1) := by decide +kernel
theorem dX6_again_6 : decode cX6_again 6 = .ok (.if_icmp .lt 5, 3) := by decide +kernel
theorem dX6_again_9 : decode cX6_again 9 = .ok (.iconst (-1), 1) := by decide +kernel
theorem dX6_again_10 : decode cX6_again 10 = .ok (.ireturn, 1) := by decide +kernel
theorem dX6_again_11 : decode cX6_again 11 = .ok (.aload_n 0, 1) := by decide +kernel
theorem dX6_again_12 : decode cX6_again 12 = .ok (.getfield 53, 3) := by decide +kernel
theorem dX6_again_15 : decode cX6_again 15 = .ok (.iload_n 1, 1) := by decide +kernel
theorem dX6_again_16 : decode cX6_again 16 = .ok (.baload, 1) := by decide +kernel
theorem dX6_again_17 : decode cX6_again 17 = .ok (.ifCond .ne 6, 3) := by decide +kernel
theorem dX6_again_20 : decode cX6_again 20 = .ok (.bipush (-3), 2) := by decide +kernel
theorem dX6_again_22 : decode cX6_again 22 = .ok (.ireturn, 1) := by decide +kernel
theorem dX6_again_23 : decode cX6_again 23 = .ok (.aload_n 0, 1) := by decide +kernel
theorem dX6_again_24 : decode cX6_again 24 = .ok (.getfield 35, 3) := by decide +kernel
theorem dX6_again_27 : decode cX6_again 27 = .ok (.aload_n 0, 1) := by decide +kernel
theorem dX6_again_28 : decode cX6_again 28 = .ok (.getfield 49, 3) := by decide +kernel
theorem dX6_again_31 : decode cX6_again 31 = .ok (.iload_n 1, 1) := by decide +kernel
theorem dX6_again_32 : decode cX6_again 32 = .ok (.aaload, 1) := by decide +kernel
theorem dX6_again_33 : decode cX6_again 33 = .ok (.invokevirtual 169, 3) := by decide +kernel
theorem dX6_again_36 : decode cX6_again 36 = .ok (.aload_n 0, 1) := by decide +kernel
theorem dX6_again_37 : decode cX6_again 37 = .ok (.getfield 45, 3) := by decide +kernel
theorem dX6_again_40 : decode cX6_again 40 = .ok (.invokevirtual 94, 3) := by decide +kernel
theorem dX6_again_43 : decode cX6_again 43 = .ok (.aload_n 0, 1) := by decide +kernel
theorem dX6_again_44 : decode cX6_again 44 = .ok (.getfield 35, 3) := by decide +kernel
theorem dX6_again_47 : decode cX6_again 47 = .ok (.getfield 247, 3) := by decide +kernel
theorem dX6_again_50 : decode cX6_again 50 = .ok (.ireturn, 1) := by decide +kernel
theorem dX6_count_0 : decode cX6_count 0 = .ok (.iload_n 1, 1) := by decide +kernel
theorem dX6_count_1 : decode cX6_count 1 = .ok (.tableswitch 161 0 10 #[59, 67, 75, 83, 91, 99, 107, 122, 137, 145, 153], 59) := by decide +kernel
theorem dX6_count_60 : decode cX6_count 60 = .ok (.aload_n 0, 1) := by decide +kernel
theorem dX6_count_61 : decode cX6_count 61 = .ok (.getfield 10, 3) := by decide +kernel
theorem dX6_count_64 : decode cX6_count 64 = .ok (.getfield 75, 3) := by decide +kernel
theorem dX6_count_67 : decode cX6_count 67 = .ok (.ireturn, 1) := by decide +kernel
theorem dX6_count_68 : decode cX6_count 68 = .ok (.aload_n 0, 1) := by decide +kernel
theorem dX6_count_69 : decode cX6_count 69 = .ok (.getfield 19, 3) := by decide +kernel
theorem dX6_count_72 : decode cX6_count 72 = .ok (.getfield 97, 3) := by decide +kernel
theorem dX6_count_75 : decode cX6_count 75 = .ok (.ireturn, 1) := by decide +kernel
theorem dX6_count_76 : decode cX6_count 76 = .ok (.aload_n 0, 1) := by decide +kernel
theorem dX6_count_77 : decode cX6_count 77 = .ok (.getfield 19, 3) := by decide +kernel
theorem dX6_count_80 : decode cX6_count 80 = .ok (.getfield 100, 3) := by decide +kernel
theorem dX6_count_83 : decode cX6_count 83 = .ok (.ireturn, 1) := by decide +kernel
theorem dX6_count_84 : decode cX6_count 84 = .ok (.aload_n 0, 1) := by decide +kernel
theorem dX6_count_85 : decode cX6_count 85 = .ok (.getfield 19, 3) := by decide +kernel
theorem dX6_count_88 : decode cX6_count 88 = .ok (.getfield 103, 3) := by decide +kernel
theorem dX6_count_91 : decode cX6_count 91 = .ok (.ireturn, 1) := by decide +kernel
theorem dX6_count_92 : decode cX6_count 92 = .ok (.aload_n 0, 1) := by decide +kernel
theorem dX6_count_93 : decode cX6_count 93 = .ok (.getfield 35, 3) := by decide +kernel
theorem dX6_count_96 : decode cX6_count 96 = .ok (.getfield 247, 3) := by decide +kernel
theorem dX6_count_99 : decode cX6_count 99 = .ok (.ireturn, 1) := by decide +kernel
theorem dX6_count_100 : decode cX6_count 100 = .ok (.aload_n 0, 1) := by decide +kernel
theorem dX6_count_101 : decode cX6_count 101 = .ok (.getfield 35, 3) := by decide +kernel
theorem dX6_count_104 : decode cX6_count 104 = .ok (.getfield 135, 3) := by decide +kernel
theorem dX6_count_107 : decode cX6_count 107 = .ok (.ireturn, 1) := by decide +kernel
theorem dX6_count_108 : decode cX6_count 108 = .ok (.aload_n 0, 1) := by decide +kernel
theorem dX6_count_109 : decode cX6_count 109 = .ok (.getfield 19, 3) := by decide +kernel
theorem dX6_count_112 : decode cX6_count 112 = .ok (.aload_n 0, 1) := by decide +kernel
theorem dX6_count_113 : decode cX6_count 113 = .ok (.getfield 35, 3) := by decide +kernel
theorem dX6_count_116 : decode cX6_count 116 = .ok (.getfield 135, 3) := by decide +kernel
theorem dX6_count_119 : decode cX6_count 119 = .ok (.invokevirtual 199, 3) := by decide +kernel
theorem dX6_count_122 : decode cX6_count 122 = .ok (.ireturn, 1) := by decide +kernel
theorem dX6_count_123 : decode cX6_count 123 = .ok (.aload_n 0, 1) := by decide +kernel
theorem dX6_count_124 : decode cX6_count 124 = .ok (.getfield 19, 3) := by decide +kernel
theorem dX6_count_127 : decode cX6_count 127 = .ok (.aload_n 0, 1) := by decide +kernel
theorem dX6_count_128 : decode cX6_count 128 = .ok (.getfield 35, 3) := by decide +kernel
theorem dX6_count_131 : decode cX6_count 131 = .ok (.getfield 135, 3) := by decide +kernel
theorem dX6_count_134 : decode cX6_count 134 = .ok (.invokevirtual 250, 3) := by decide +kernel
theorem dX6_count_137 : decode cX6_count 137 = .ok (.ireturn, 1) := by decide +kernel
theorem dX6_count_138 : decode cX6_count 138 = .ok (.aload_n 0, 1) := by decide +kernel
theorem dX6_count_139 : decode cX6_count 139 = .ok (.getfield 35, 3) := by decide +kernel
theorem dX6_count_142 : decode cX6_count 142 = .ok (.invokevirtual 253, 3) := by decide +kernel
theorem dX6_count_145 : decode cX6_count 145 = .ok (.ireturn, 1) := by decide +kernel
theorem dX6_count_146 : decode cX6_count 146 = .ok (.aload_n 0, 1) := by decide +kernel
theorem dX6_count_147 : decode cX6_count 147 = .ok (.getfield 45, 3) := by decide +kernel
theorem dX6_count_150 : decode cX6_count 150 = .ok (.getfield 165, 3) := by decide +kernel
theorem dX6_count_153 : decode cX6_count 153 = .ok (.ireturn, 1) := by decide +kernel
theorem dX6_count_154 : decode cX6_count 154 = .ok (.aload_n 0, 1) := by decide +kernel
theorem dX6_count_155 : decode cX6_count 155 = .ok (.getfield 60, 3) := by decide +kernel
theorem dX6_count_158 : decode cX6_count 158 = .ok (.getfield 211, 3) := by decide +kernel
theorem dX6_count_161 : decode cX6_count 161 = .ok (.ireturn, 1) := by decide +kernel
theorem dX6_count_162 : decode cX6_count 162 = .ok (.bipush (-2), 2) := by decide +kernel
theorem dX6_count_164 : decode cX6_count 164 = .ok (.ireturn, 1) := by decide +kernel
theorem dX6_isThing_0 : decode cX6_isThing 0 = .ok (.iload_n 0, 1) := by decide +kernel
theorem dX6_isThing_1 : decode cX6_isThing 1 = .ok (.ifCond .lt 13, 3) := by decide +kernel
theorem dX6_isThing_4 : decode cX6_isThing 4 = .ok (.iload_n 0, 1) := by decide +kernel
theorem dX6_isThing_5 : decode cX6_isThing 5 = .ok (.bipush 6, 2) := by decide +kernel
theorem dX6_isThing_7 : decode cX6_isThing 7 = .ok (.if_icmp .ge 7, 3) := by decide +kernel
theorem dX6_isThing_10 : decode cX6_isThing 10 = .ok (.iconst 1, 1) := by decide +kernel
theorem dX6_isThing_11 : decode cX6_isThing 11 = .ok (.goto 4, 3) := by decide +kernel
theorem dX6_isThing_14 : decode cX6_isThing 14 = .ok (.iconst 0, 1) := by decide +kernel
theorem dX6_isThing_15 : decode cX6_isThing 15 = .ok (.ireturn, 1) := by decide +kernel
theorem dX6_isPin_0 : decode cX6_isPin 0 = .ok (.iload_n 1, 1) := by decide +kernel
theorem dX6_isPin_1 : decode cX6_isPin 1 = .ok (.ifCond .lt 18, 3) := by decide +kernel
theorem dX6_isPin_4 : decode cX6_isPin 4 = .ok (.iload_n 1, 1) := by decide +kernel
theorem dX6_isPin_5 : decode cX6_isPin 5 = .ok (.aload_n 0, 1) := by decide +kernel
theorem dX6_isPin_6 : decode cX6_isPin 6 = .ok (.getfield 19, 3) := by decide +kernel
theorem dX6_isPin_9 : decode cX6_isPin 9 = .ok (.getfield 97, 3) := by decide +kernel
theorem dX6_isPin_12 : decode cX6_isPin 12 = .ok (.if_icmp .ge 7, 3) := by decide +kernel
theorem dX6_isPin_15 : decode cX6_isPin 15 = .ok (.iconst 1, 1) := by decide +kernel
theorem dX6_isPin_16 : decode cX6_isPin 16 = .ok (.goto 4, 3) := by decide +kernel
theorem dX6_isPin_19 : decode cX6_isPin 19 = .ok (.iconst 0, 1) := by decide +kernel
theorem dX6_isPin_20 : decode cX6_isPin 20 = .ok (.ireturn, 1) := by decide +kernel
theorem dX6_refusalOfTwo_0 : decode cX6_refusalOfTwo 0 = .ok (.iload_n 0, 1) := by decide +kernel
theorem dX6_refusalOfTwo_1 : decode cX6_refusalOfTwo 1 = .ok (.invokestatic 132, 3) := by decide +kernel
theorem dX6_refusalOfTwo_4 : decode cX6_refusalOfTwo 4 = .ok (.ifCond .eq 10, 3) := by decide +kernel
theorem dX6_refusalOfTwo_7 : decode cX6_refusalOfTwo 7 = .ok (.iload_n 1, 1) := by decide +kernel
theorem dX6_refusalOfTwo_8 : decode cX6_refusalOfTwo 8 = .ok (.invokestatic 132, 3) := by decide +kernel
theorem dX6_refusalOfTwo_11 : decode cX6_refusalOfTwo 11 = .ok (.ifCond .ne 5, 3) := by decide +kernel
theorem dX6_refusalOfTwo_14 : decode cX6_refusalOfTwo 14 = .ok (.iconst (-1), 1) := by decide +kernel
theorem dX6_refusalOfTwo_15 : decode cX6_refusalOfTwo 15 = .ok (.ireturn, 1) := by decide +kernel
theorem dX6_refusalOfTwo_16 : decode cX6_refusalOfTwo 16 = .ok (.iload_n 0, 1) := by decide +kernel
theorem dX6_refusalOfTwo_17 : decode cX6_refusalOfTwo 17 = .ok (.iload_n 1, 1) := by decide +kernel
theorem dX6_refusalOfTwo_18 : decode cX6_refusalOfTwo 18 = .ok (.if_icmp .ne 8, 3) := by decide +kernel
theorem dX6_refusalOfTwo_21 : decode cX6_refusalOfTwo 21 = .ok (.bipush (-2), 2) := by decide +kernel
theorem dX6_refusalOfTwo_23 : decode cX6_refusalOfTwo 23 = .ok (.goto 4, 3) := by decide +kernel
theorem dX6_refusalOfTwo_26 : decode cX6_refusalOfTwo 26 = .ok (.iconst 0, 1) := by decide +kernel
theorem dX6_refusalOfTwo_27 : decode cX6_refusalOfTwo 27 = .ok (.ireturn, 1) := by decide +kernel
theorem dX6_isBetterCut_0 : decode cX6_isBetterCut 0 = .ok (.iload_n 2, 1) := by decide +kernel
theorem dX6_isBetterCut_1 : decode cX6_isBetterCut 1 = .ok (.bipush (-9), 2) := by decide +kernel
theorem dX6_isBetterCut_3 : decode cX6_isBetterCut 3 = .ok (.if_icmp .eq 14, 3) := by decide +kernel
theorem dX6_isBetterCut_6 : decode cX6_isBetterCut 6 = .ok (.iload_n 1, 1) := by decide +kernel
theorem dX6_isBetterCut_7 : decode cX6_isBetterCut 7 = .ok (.invokestatic 156, 3) := by decide +kernel
theorem dX6_isBetterCut_10 : decode cX6_isBetterCut 10 = .ok (.iload_n 2, 1) := by decide +kernel
theorem dX6_isBetterCut_11 : decode cX6_isBetterCut 11 = .ok (.invokestatic 156, 3) := by decide +kernel
theorem dX6_isBetterCut_14 : decode cX6_isBetterCut 14 = .ok (.if_icmp .ge 7, 3) := by decide +kernel
theorem dX6_isBetterCut_17 : decode cX6_isBetterCut 17 = .ok (.iconst 1, 1) := by decide +kernel
theorem dX6_isBetterCut_18 : decode cX6_isBetterCut 18 = .ok (.goto 4, 3) := by decide +kernel
theorem dX6_isBetterCut_21 : decode cX6_isBetterCut 21 = .ok (.iconst 0, 1) := by decide +kernel
theorem dX6_isBetterCut_22 : decode cX6_isBetterCut 22 = .ok (.istore_n 3, 1) := by decide +kernel
theorem dX6_isBetterCut_23 : decode cX6_isBetterCut 23 = .ok (.iload_n 3, 1) := by decide +kernel
theorem dX6_isBetterCut_24 : decode cX6_isBetterCut 24 = .ok (.ifCond .eq 19, 3) := by decide +kernel
theorem dX6_isBetterCut_27 : decode cX6_isBetterCut 27 = .ok (.iload_n 1, 1) := by decide +kernel
theorem dX6_isBetterCut_28 : decode cX6_isBetterCut 28 = .ok (.aload_n 0, 1) := by decide +kernel
theorem dX6_isBetterCut_29 : decode cX6_isBetterCut 29 = .ok (.getfield 35, 3) := by decide +kernel
theorem dX6_isBetterCut_32 : decode cX6_isBetterCut 32 = .ok (.getfield 135, 3) := by decide +kernel
theorem dX6_isBetterCut_35 : decode cX6_isBetterCut 35 = .ok (.iand, 1) := by decide +kernel
theorem dX6_isBetterCut_36 : decode cX6_isBetterCut 36 = .ok (.ifCond .ne 7, 3) := by decide +kernel
theorem dX6_isBetterCut_39 : decode cX6_isBetterCut 39 = .ok (.iconst 1, 1) := by decide +kernel
theorem dX6_isBetterCut_40 : decode cX6_isBetterCut 40 = .ok (.goto 4, 3) := by decide +kernel
theorem dX6_isBetterCut_43 : decode cX6_isBetterCut 43 = .ok (.iconst 0, 1) := by decide +kernel
theorem dX6_isBetterCut_44 : decode cX6_isBetterCut 44 = .ok (.ireturn, 1) := by decide +kernel
theorem dX6_firstThatParts_0 : decode cX6_firstThatParts 0 = .ok (.iconst 0, 1) := by decide +kernel
theorem dX6_firstThatParts_1 : decode cX6_firstThatParts 1 = .ok (.istore 4, 2) := by decide +kernel
theorem dX6_firstThatParts_3 : decode cX6_firstThatParts 3 = .ok (.iload 4, 2) := by decide +kernel
theorem dX6_firstThatParts_5 : decode cX6_firstThatParts 5 = .ok (.bipush 6, 2) := by decide +kernel
theorem dX6_firstThatParts_7 : decode cX6_firstThatParts 7 = .ok (.if_icmp .ge 57, 3) := by decide +kernel
theorem dX6_firstThatParts_10 : decode cX6_firstThatParts 10 = .ok (.aload_n 0, 1) := by decide +kernel
theorem dX6_firstThatParts_11 : decode cX6_firstThatParts 11 = .ok (.getfield 39, 3) := by decide +kernel
theorem dX6_firstThatParts_14 : decode cX6_firstThatParts 14 = .ok (.aload_n 0, 1) := by decide +kernel
theorem dX6_firstThatParts_15 : decode cX6_firstThatParts 15 = .ok (.getfield 35, 3) := by decide +kernel
theorem dX6_firstThatParts_18 : decode cX6_firstThatParts 18 = .ok (.invokevirtual 169, 3) := by decide +kernel
theorem dX6_firstThatParts_21 : decode cX6_firstThatParts 21 = .ok (.aload_n 0, 1) := by decide +kernel
theorem dX6_firstThatParts_22 : decode cX6_firstThatParts 22 = .ok (.getfield 28, 3) := by decide +kernel
theorem dX6_firstThatParts_25 : decode cX6_firstThatParts 25 = .ok (.aload_n 0, 1) := by decide +kernel
theorem dX6_firstThatParts_26 : decode cX6_firstThatParts 26 = .ok (.getfield 39, 3) := by decide +kernel
theorem dX6_firstThatParts_29 : decode cX6_firstThatParts 29 = .ok (.iload 4, 2) := by decide +kernel
theorem dX6_firstThatParts_31 : decode cX6_firstThatParts 31 = .ok (.iload_n 3, 1) := by decide +kernel
theorem dX6_firstThatParts_32 : decode cX6_firstThatParts 32 = .ok (.invokevirtual 149, 3) := by decide +kernel
theorem dX6_firstThatParts_35 : decode cX6_firstThatParts 35 = .ok (.pop, 1) := by decide +kernel
theorem dX6_firstThatParts_36 : decode cX6_firstThatParts 36 = .ok (.aload_n 0, 1) := by decide +kernel
theorem dX6_firstThatParts_37 : decode cX6_firstThatParts 37 = .ok (.getfield 19, 3) := by decide +kernel
theorem dX6_firstThatParts_40 : decode cX6_firstThatParts 40 = .ok (.iload_n 1, 1) := by decide +kernel
theorem dX6_firstThatParts_41 : decode cX6_firstThatParts 41 = .ok (.iload_n 2, 1) := by decide +kernel
theorem dX6_firstThatParts_42 : decode cX6_firstThatParts 42 = .ok (.aload_n 0, 1) := by decide +kernel
theorem dX6_firstThatParts_43 : decode cX6_firstThatParts 43 = .ok (.getfield 39, 3) := by decide +kernel
theorem dX6_firstThatParts_46 : decode cX6_firstThatParts 46 = .ok (.getfield 135, 3) := by decide +kernel
theorem dX6_firstThatParts_49 : decode cX6_firstThatParts 49 = .ok (.invokevirtual 191, 3) := by decide +kernel
theorem dX6_firstThatParts_52 : decode cX6_firstThatParts 52 = .ok (.ifCond .ne 6, 3) := by decide +kernel
theorem dX6_firstThatParts_55 : decode cX6_firstThatParts 55 = .ok (.iload 4, 2) := by decide +kernel
theorem dX6_firstThatParts_57 : decode cX6_firstThatParts 57 = .ok (.ireturn, 1) := by decide +kernel
theorem dX6_firstThatParts_58 : decode cX6_firstThatParts 58 = .ok (.iinc 4 1, 3) := by decide +kernel
theorem dX6_firstThatParts_61 : decode cX6_firstThatParts 61 = .ok (.goto (-58), 3) := by decide +kernel
theorem dX6_firstThatParts_64 : decode cX6_firstThatParts 64 = .ok (.bipush (-9), 2) := by decide +kernel
theorem dX6_firstThatParts_66 : decode cX6_firstThatParts 66 = .ok (.ireturn, 1) := by decide +kernel
theorem dX6_comesTrue_0 : decode cX6_comesTrue 0 = .ok (.iload_n 1, 1) := by decide +kernel
theorem dX6_comesTrue_1 : decode cX6_comesTrue 1 = .ok (.tableswitch 209 0 5 #[39, 63, 92, 110, 128, 167], 39) := by decide +kernel
theorem dX6_comesTrue_40 : decode cX6_comesTrue 40 = .ok (.iload_n 2, 1) := by decide +kernel
theorem dX6_comesTrue_41 : decode cX6_comesTrue 41 = .ok (.ifCond .ne 7, 3) := by decide +kernel
theorem dX6_comesTrue_44 : decode cX6_comesTrue 44 = .ok (.iload_n 3, 1) := by decide +kernel
theorem dX6_comesTrue_45 : decode cX6_comesTrue 45 = .ok (.ifCond .eq 5, 3) := by decide +kernel
theorem dX6_comesTrue_48 : decode cX6_comesTrue 48 = .ok (.iconst 0, 1) := by decide +kernel
theorem dX6_comesTrue_49 : decode cX6_comesTrue 49 = .ok (.ireturn, 1) := by decide +kernel
theorem dX6_comesTrue_50 : decode cX6_comesTrue 50 = .ok (.aload_n 0, 1) := by decide +kernel
theorem dX6_comesTrue_51 : decode cX6_comesTrue 51 = .ok (.getfield 28, 3) := by decide +kernel
theorem dX6_comesTrue_54 : decode cX6_comesTrue 54 = .ok (.aload_n 0, 1) := by decide +kernel
theorem dX6_comesTrue_55 : decode cX6_comesTrue 55 = .ok (.getfield 39, 3) := by decide +kernel
theorem dX6_comesTrue_58 : decode cX6_comesTrue 58 = .ok (.invokevirtual 145, 3) := by decide +kernel
theorem dX6_comesTrue_61 : decode cX6_comesTrue 61 = .ok (.pop, 1) := by decide +kernel
theorem dX6_comesTrue_62 : decode cX6_comesTrue 62 = .ok (.iconst 1, 1) := by decide +kernel
theorem dX6_comesTrue_63 : decode cX6_comesTrue 63 = .ok (.ireturn, 1) := by decide +kernel
theorem dX6_comesTrue_64 : decode cX6_comesTrue 64 = .ok (.iload_n 2, 1) := by decide +kernel
theorem dX6_comesTrue_65 : decode cX6_comesTrue 65 = .ok (.invokestatic 132, 3) := by decide +kernel
theorem dX6_comesTrue_68 : decode cX6_comesTrue 68 = .ok (.ifCond .eq 7, 3) := by decide +kernel
theorem dX6_comesTrue_71 : decode cX6_comesTrue 71 = .ok (.iload_n 3, 1) := by decide +kernel
theorem dX6_comesTrue_72 : decode cX6_comesTrue 72 = .ok (.ifCond .ne 5, 3) := by decide +kernel
theorem dX6_comesTrue_75 : decode cX6_comesTrue 75 = .ok (.iconst 0, 1) := by decide +kernel
theorem dX6_comesTrue_76 : decode cX6_comesTrue 76 = .ok (.ireturn, 1) := by decide +kernel
theorem dX6_comesTrue_77 : decode cX6_comesTrue 77 = .ok (.aload_n 0, 1) := by decide +kernel
theorem dX6_comesTrue_78 : decode cX6_comesTrue 78 = .ok (.getfield 28, 3) := by decide +kernel
theorem dX6_comesTrue_81 : decode cX6_comesTrue 81 = .ok (.aload_n 0, 1) := by decide +kernel
theorem dX6_comesTrue_82 : decode cX6_comesTrue 82 = .ok (.getfield 39, 3) := by decide +kernel
theorem dX6_comesTrue_85 : decode cX6_comesTrue 85 = .ok (.iload_n 2, 1) := by decide +kernel
theorem dX6_comesTrue_86 : decode cX6_comesTrue 86 = .ok (.iload_n 3, 1) := by decide +kernel
theorem dX6_comesTrue_87 : decode cX6_comesTrue 87 = .ok (.invokevirtual 149, 3) := by decide +kernel
theorem dX6_comesTrue_90 : decode cX6_comesTrue 90 = .ok (.pop, 1) := by decide +kernel
theorem dX6_comesTrue_91 : decode cX6_comesTrue 91 = .ok (.iconst 1, 1) := by decide +kernel
theorem dX6_comesTrue_92 : decode cX6_comesTrue 92 = .ok (.ireturn, 1) := by decide +kernel
theorem dX6_comesTrue_93 : decode cX6_comesTrue 93 = .ok (.iload_n 2, 1) := by decide +kernel
theorem dX6_comesTrue_94 : decode cX6_comesTrue 94 = .ok (.ifCond .ne 15, 3) := by decide +kernel
theorem dX6_comesTrue_97 : decode cX6_comesTrue 97 = .ok (.aload_n 0, 1) := by decide +kernel
theorem dX6_comesTrue_98 : decode cX6_comesTrue 98 = .ok (.iload_n 3, 1) := by decide +kernel
theorem dX6_comesTrue_99 : decode cX6_comesTrue 99 = .ok (.invokevirtual 256, 3) := by decide +kernel
theorem dX6_comesTrue_102 : decode cX6_comesTrue 102 = .ok (.ifCond .eq 7, 3) := by decide +kernel
theorem dX6_comesTrue_105 : decode cX6_comesTrue 105 = .ok (.iconst 1, 1) := by decide +kernel
theorem dX6_comesTrue_106 : decode cX6_comesTrue 106 = .ok (.goto 4, 3) := by decide +kernel
theorem dX6_comesTrue_109 : decode cX6_comesTrue 109 = .ok (.iconst 0, 1) := by decide +kernel
theorem dX6_comesTrue_110 : decode cX6_comesTrue 110 = .ok (.ireturn, 1) := by decide +kernel
theorem dX6_comesTrue_111 : decode cX6_comesTrue 111 = .ok (.iload_n 2, 1) := by decide +kernel
theorem dX6_comesTrue_112 : decode cX6_comesTrue 112 = .ok (.ifCond .ne 15, 3) := by decide +kernel
theorem dX6_comesTrue_115 : decode cX6_comesTrue 115 = .ok (.aload_n 0, 1) := by decide +kernel
theorem dX6_comesTrue_116 : decode cX6_comesTrue 116 = .ok (.iload_n 3, 1) := by decide +kernel
theorem dX6_comesTrue_117 : decode cX6_comesTrue 117 = .ok (.invokevirtual 259, 3) := by decide +kernel
theorem dX6_comesTrue_120 : decode cX6_comesTrue 120 = .ok (.ifCond .eq 7, 3) := by decide +kernel
theorem dX6_comesTrue_123 : decode cX6_comesTrue 123 = .ok (.iconst 1, 1) := by decide +kernel
theorem dX6_comesTrue_124 : decode cX6_comesTrue 124 = .ok (.goto 4, 3) := by decide +kernel
theorem dX6_comesTrue_127 : decode cX6_comesTrue 127 = .ok (.iconst 0, 1) := by decide +kernel
theorem dX6_comesTrue_128 : decode cX6_comesTrue 128 = .ok (.ireturn, 1) := by decide +kernel
theorem dX6_comesTrue_129 : decode cX6_comesTrue 129 = .ok (.iload_n 2, 1) := by decide +kernel
theorem dX6_comesTrue_130 : decode cX6_comesTrue 130 = .ok (.invokestatic 132, 3) := by decide +kernel
theorem dX6_comesTrue_133 : decode cX6_comesTrue 133 = .ok (.ifCond .eq 33, 3) := by decide +kernel
theorem dX6_comesTrue_136 : decode cX6_comesTrue 136 = .ok (.iload_n 3, 1) := by decide +kernel
theorem dX6_comesTrue_137 : decode cX6_comesTrue 137 = .ok (.invokestatic 132, 3) := by decide +kernel
theorem dX6_comesTrue_140 : decode cX6_comesTrue 140 = .ok (.ifCond .eq 26, 3) := by decide +kernel
theorem dX6_comesTrue_143 : decode cX6_comesTrue 143 = .ok (.aload_n 0, 1) := by decide +kernel
theorem dX6_comesTrue_144 : decode cX6_comesTrue 144 = .ok (.getfield 19, 3) := by decide +kernel
theorem dX6_comesTrue_147 : decode cX6_comesTrue 147 = .ok (.iload_n 2, 1) := by decide +kernel
theorem dX6_comesTrue_148 : decode cX6_comesTrue 148 = .ok (.iload_n 3, 1) := by decide +kernel
theorem dX6_comesTrue_149 : decode cX6_comesTrue 149 = .ok (.aload_n 0, 1) := by decide +kernel
theorem dX6_comesTrue_150 : decode cX6_comesTrue 150 = .ok (.getfield 39, 3) := by decide +kernel
theorem dX6_comesTrue_153 : decode cX6_comesTrue 153 = .ok (.getfield 135, 3) := by decide +kernel
theorem dX6_comesTrue_156 : decode cX6_comesTrue 156 = .ok (.invokevirtual 191, 3) := by decide +kernel
theorem dX6_comesTrue_159 : decode cX6_comesTrue 159 = .ok (.ifCond .eq 7, 3) := by decide +kernel
theorem dX6_comesTrue_162 : decode cX6_comesTrue 162 = .ok (.iconst 1, 1) := by decide +kernel
theorem dX6_comesTrue_163 : decode cX6_comesTrue 163 = .ok (.goto 4, 3) := by decide +kernel
theorem dX6_comesTrue_166 : decode cX6_comesTrue 166 = .ok (.iconst 0, 1) := by decide +kernel
theorem dX6_comesTrue_167 : decode cX6_comesTrue 167 = .ok (.ireturn, 1) := by decide +kernel
theorem dX6_comesTrue_168 : decode cX6_comesTrue 168 = .ok (.iload_n 2, 1) := by decide +kernel
theorem dX6_comesTrue_169 : decode cX6_comesTrue 169 = .ok (.ifCond .ne 39, 3) := by decide +kernel
theorem dX6_comesTrue_172 : decode cX6_comesTrue 172 = .ok (.iload_n 3, 1) := by decide +kernel
theorem dX6_comesTrue_173 : decode cX6_comesTrue 173 = .ok (.aload_n 0, 1) := by decide +kernel
theorem dX6_comesTrue_174 : decode cX6_comesTrue 174 = .ok (.getfield 19, 3) := by decide +kernel
theorem dX6_comesTrue_177 : decode cX6_comesTrue 177 = .ok (.getfield 103, 3) := by decide +kernel
theorem dX6_comesTrue_180 : decode cX6_comesTrue 180 = .ok (.if_icmp .ge 28, 3) := by decide +kernel
theorem dX6_comesTrue_183 : decode cX6_comesTrue 183 = .ok (.aload_n 0, 1) := by decide +kernel
theorem dX6_comesTrue_184 : decode cX6_comesTrue 184 = .ok (.getfield 19, 3) := by decide +kernel
theorem dX6_comesTrue_187 : decode cX6_comesTrue 187 = .ok (.aload_n 0, 1) := by decide +kernel
theorem dX6_comesTrue_188 : decode cX6_comesTrue 188 = .ok (.getfield 39, 3) := by decide +kernel
theorem dX6_comesTrue_191 : decode cX6_comesTrue 191 = .ok (.getfield 135, 3) := by decide +kernel
theorem dX6_comesTrue_194 : decode cX6_comesTrue 194 = .ok (.invokevirtual 199, 3) := by decide +kernel
theorem dX6_comesTrue_197 : decode cX6_comesTrue 197 = .ok (.iconst 1, 1) := by decide +kernel
theorem dX6_comesTrue_198 : decode cX6_comesTrue 198 = .ok (.iload_n 3, 1) := by decide +kernel
theorem dX6_comesTrue_199 : decode cX6_comesTrue 199 = .ok (.ishl, 1) := by decide +kernel
theorem dX6_comesTrue_200 : decode cX6_comesTrue 200 = .ok (.iand, 1) := by decide +kernel
theorem dX6_comesTrue_201 : decode cX6_comesTrue 201 = .ok (.ifCond .eq 7, 3) := by decide +kernel
theorem dX6_comesTrue_204 : decode cX6_comesTrue 204 = .ok (.iconst 1, 1) := by decide +kernel
theorem dX6_comesTrue_205 : decode cX6_comesTrue 205 = .ok (.goto 4, 3) := by decide +kernel
theorem dX6_comesTrue_208 : decode cX6_comesTrue 208 = .ok (.iconst 0, 1) := by decide +kernel
theorem dX6_comesTrue_209 : decode cX6_comesTrue 209 = .ok (.ireturn, 1) := by decide +kernel
theorem dX6_comesTrue_210 : decode cX6_comesTrue 210 = .ok (.iconst 0, 1) := by decide +kernel
theorem dX6_comesTrue_211 : decode cX6_comesTrue 211 = .ok (.ireturn, 1) := by decide +kernel
theorem dX6_closesInThought_0 : decode cX6_closesInThought 0 = .ok (.aload_n 0, 1) := by decide +kernel
theorem dX6_closesInThought_1 : decode cX6_closesInThought 1 = .ok (.iload_n 1, 1) := by decide +kernel
theorem dX6_closesInThought_2 : decode cX6_closesInThought 2 = .ok (.invokevirtual 106, 3) := by decide +kernel
theorem dX6_closesInThought_5 : decode cX6_closesInThought 5 = .ok (.ifCond .eq 14, 3) := by decide +kernel
theorem dX6_closesInThought_8 : decode cX6_closesInThought 8 = .ok (.aload_n 0, 1) := by decide +kernel
theorem dX6_closesInThought_9 : decode cX6_closesInThought 9 = .ok (.getfield 39, 3) := by decide +kernel
theorem dX6_closesInThought_12 : decode cX6_closesInThought 12 = .ok (.iload_n 1, 1) := by decide +kernel
theorem dX6_closesInThought_13 : decode cX6_closesInThought 13 = .ok (.invokevirtual 129, 3) := by decide +kernel
theorem dX6_closesInThought_16 : decode cX6_closesInThought 16 = .ok (.ifCond .ne 5, 3) := by decide +kernel
theorem dX6_closesInThought_19 : decode cX6_closesInThought 19 = .ok (.iconst 0, 1) := by decide +kernel
theorem dX6_closesInThought_20 : decode cX6_closesInThought 20 = .ok (.ireturn, 1) := by decide +kernel
theorem dX6_closesInThought_21 : decode cX6_closesInThought 21 = .ok (.aload_n 0, 1) := by decide +kernel
theorem dX6_closesInThought_22 : decode cX6_closesInThought 22 = .ok (.getfield 39, 3) := by decide +kernel
theorem dX6_closesInThought_25 : decode cX6_closesInThought 25 = .ok (.iload_n 1, 1) := by decide +kernel
theorem dX6_closesInThought_26 : decode cX6_closesInThought 26 = .ok (.invokevirtual 153, 3) := by decide +kernel
theorem dX6_closesInThought_29 : decode cX6_closesInThought 29 = .ok (.iconst 1, 1) := by decide +kernel
theorem dX6_closesInThought_30 : decode cX6_closesInThought 30 = .ok (.ireturn, 1) := by decide +kernel
theorem dX6_unpinsInThought_0 : decode cX6_unpinsInThought 0 = .ok (.aload_n 0, 1) := by decide +kernel
theorem dX6_unpinsInThought_1 : decode cX6_unpinsInThought 1 = .ok (.iload_n 1, 1) := by decide +kernel
theorem dX6_unpinsInThought_2 : decode cX6_unpinsInThought 2 = .ok (.invokevirtual 106, 3) := by decide +kernel
theorem dX6_unpinsInThought_5 : decode cX6_unpinsInThought 5 = .ok (.ifCond .eq 14, 3) := by decide +kernel
theorem dX6_unpinsInThought_8 : decode cX6_unpinsInThought 8 = .ok (.aload_n 0, 1) := by decide +kernel
theorem dX6_unpinsInThought_9 : decode cX6_unpinsInThought 9 = .ok (.getfield 39, 3) := by decide +kernel
theorem dX6_unpinsInThought_12 : decode cX6_unpinsInThought 12 = .ok (.iload_n 1, 1) := by decide +kernel
theorem dX6_unpinsInThought_13 : decode cX6_unpinsInThought 13 = .ok (.invokevirtual 129, 3) := by decide +kernel
theorem dX6_unpinsInThought_16 : decode cX6_unpinsInThought 16 = .ok (.ifCond .eq 5, 3) := by decide +kernel
theorem dX6_unpinsInThought_19 : decode cX6_unpinsInThought 19 = .ok (.iconst 0, 1) := by decide +kernel
theorem dX6_unpinsInThought_20 : decode cX6_unpinsInThought 20 = .ok (.ireturn, 1) := by decide +kernel
theorem dX6_unpinsInThought_21 : decode cX6_unpinsInThought 21 = .ok (.aload_n 0, 1) := by decide +kernel
theorem dX6_unpinsInThought_22 : decode cX6_unpinsInThought 22 = .ok (.getfield 39, 3) := by decide +kernel
theorem dX6_unpinsInThought_25 : decode cX6_unpinsInThought 25 = .ok (.iload_n 1, 1) := by decide +kernel
theorem dX6_unpinsInThought_26 : decode cX6_unpinsInThought 26 = .ok (.invokevirtual 162, 3) := by decide +kernel
theorem dX6_unpinsInThought_29 : decode cX6_unpinsInThought 29 = .ok (.iconst 1, 1) := by decide +kernel
theorem dX6_unpinsInThought_30 : decode cX6_unpinsInThought 30 = .ok (.ireturn, 1) := by decide +kernel
theorem dX6_passSeason_0 : decode cX6_passSeason 0 = .ok (.iload_n 1, 1) := by decide +kernel
theorem dX6_passSeason_1 : decode cX6_passSeason 1 = .ok (.iconst 5, 1) := by decide +kernel
theorem dX6_passSeason_2 : decode cX6_passSeason 2 = .ok (.if_icmp .gt 20, 3) := by decide +kernel
theorem dX6_passSeason_5 : decode cX6_passSeason 5 = .ok (.aload_n 0, 1) := by decide +kernel
theorem dX6_passSeason_6 : decode cX6_passSeason 6 = .ok (.getfield 28, 3) := by decide +kernel
theorem dX6_passSeason_9 : decode cX6_passSeason 9 = .ok (.aload_n 0, 1) := by decide +kernel
theorem dX6_passSeason_10 : decode cX6_passSeason 10 = .ok (.getfield 39, 3) := by decide +kernel
theorem dX6_passSeason_13 : decode cX6_passSeason 13 = .ok (.iload_n 1, 1) := by decide +kernel
theorem dX6_passSeason_14 : decode cX6_passSeason 14 = .ok (.iconst 4, 1) := by decide +kernel
theorem dX6_passSeason_15 : decode cX6_passSeason 15 = .ok (.invokevirtual 149, 3) := by decide +kernel
theorem dX6_passSeason_18 : decode cX6_passSeason 18 = .ok (.pop, 1) := by decide +kernel
theorem dX6_passSeason_19 : decode cX6_passSeason 19 = .ok (.goto 51, 3) := by decide +kernel
theorem dX6_passSeason_22 : decode cX6_passSeason 22 = .ok (.iload_n 1, 1) := by decide +kernel
theorem dX6_passSeason_23 : decode cX6_passSeason 23 = .ok (.bipush 12, 2) := by decide +kernel
theorem dX6_passSeason_25 : decode cX6_passSeason 25 = .ok (.if_icmp .gt 15, 3) := by decide +kernel
theorem dX6_passSeason_28 : decode cX6_passSeason 28 = .ok (.aload_n 0, 1) := by decide +kernel
theorem dX6_passSeason_29 : decode cX6_passSeason 29 = .ok (.iload_n 1, 1) := by decide +kernel
theorem dX6_passSeason_30 : decode cX6_passSeason 30 = .ok (.bipush 6, 2) := by decide +kernel
theorem dX6_passSeason_32 : decode cX6_passSeason 32 = .ok (.isub, 1) := by decide +kernel
theorem dX6_passSeason_33 : decode cX6_passSeason 33 = .ok (.invokevirtual 256, 3) := by decide +kernel
theorem dX6_passSeason_36 : decode cX6_passSeason 36 = .ok (.pop, 1) := by decide +kernel
theorem dX6_passSeason_37 : decode cX6_passSeason 37 = .ok (.goto 33, 3) := by decide +kernel
theorem dX6_passSeason_40 : decode cX6_passSeason 40 = .ok (.iload_n 1, 1) := by decide +kernel
theorem dX6_passSeason_41 : decode cX6_passSeason 41 = .ok (.bipush 19, 2) := by decide +kernel
theorem dX6_passSeason_43 : decode cX6_passSeason 43 = .ok (.if_icmp .gt 15, 3) := by decide +kernel
theorem dX6_passSeason_46 : decode cX6_passSeason 46 = .ok (.aload_n 0, 1) := by decide +kernel
theorem dX6_passSeason_47 : decode cX6_passSeason 47 = .ok (.iload_n 1, 1) := by decide +kernel
theorem dX6_passSeason_48 : decode cX6_passSeason 48 = .ok (.bipush 13, 2) := by decide +kernel
theorem dX6_passSeason_50 : decode cX6_passSeason 50 = .ok (.isub, 1) := by decide +kernel
theorem dX6_passSeason_51 : decode cX6_passSeason 51 = .ok (.invokevirtual 259, 3) := by decide +kernel
theorem dX6_passSeason_54 : decode cX6_passSeason 54 = .ok (.pop, 1) := by decide +kernel
theorem dX6_passSeason_55 : decode cX6_passSeason 55 = .ok (.goto 15, 3) := by decide +kernel
theorem dX6_passSeason_58 : decode cX6_passSeason 58 = .ok (.aload_n 0, 1) := by decide +kernel
theorem dX6_passSeason_59 : decode cX6_passSeason 59 = .ok (.getfield 28, 3) := by decide +kernel
theorem dX6_passSeason_62 : decode cX6_passSeason 62 = .ok (.aload_n 0, 1) := by decide +kernel
theorem dX6_passSeason_63 : decode cX6_passSeason 63 = .ok (.getfield 39, 3) := by decide +kernel
theorem dX6_passSeason_66 : decode cX6_passSeason 66 = .ok (.invokevirtual 145, 3) := by decide +kernel
theorem dX6_passSeason_69 : decode cX6_passSeason 69 = .ok (.pop, 1) := by decide +kernel
theorem dX6_passSeason_70 : decode cX6_passSeason 70 = .ok (.return_, 1) := by decide +kernel
theorem dX6_pairsBroughtInAllOrders_0 : decode cX6_pairsBroughtInAllOrders 0 = .ok (.iload_n 2, 1) := by decide +kernel
theorem dX6_pairsBroughtInAllOrders_1 : decode cX6_pairsBroughtInAllOrders 1 = .ok (.iconst 1, 1) := by decide +kernel
theorem dX6_pairsBroughtInAllOrders_2 : decode cX6_pairsBroughtInAllOrders 2 = .ok (.iload_n 1, 1) := by decide +kernel
theorem dX6_pairsBroughtInAllOrders_3 : decode cX6_pairsBroughtInAllOrders 3 = .ok (.ishl, 1) := by decide +kernel
theorem dX6_pairsBroughtInAllOrders_4 : decode cX6_pairsBroughtInAllOrders 4 = .ok (.iconst (-1), 1) := by decide +kernel
theorem dX6_pairsBroughtInAllOrders_5 : decode cX6_pairsBroughtInAllOrders 5 = .ok (.ixor, 1) := by decide +kernel
theorem dX6_pairsBroughtInAllOrders_6 : decode cX6_pairsBroughtInAllOrders 6 = .ok (.iand, 1) := by decide +kernel
theorem dX6_pairsBroughtInAllOrders_7 : decode cX6_pairsBroughtInAllOrders 7 = .ok (.istore 4, 2) := by decide +kernel
theorem dX6_pairsBroughtInAllOrders_9 : decode cX6_pairsBroughtInAllOrders 9 = .ok (.lconst 0, 1) := by decide +kernel
theorem dX6_pairsBroughtInAllOrders_10 : decode cX6_pairsBroughtInAllOrders 10 = .ok (.lstore 5, 2) := by decide +kernel
theorem dX6_pairsBroughtInAllOrders_12 : decode cX6_pairsBroughtInAllOrders 12 = .ok (.iconst 0, 1) := by decide +kernel
theorem dX6_pairsBroughtInAllOrders_13 : decode cX6_pairsBroughtInAllOrders 13 = .ok (.istore 7, 2) := by decide +kernel
theorem dX6_pairsBroughtInAllOrders_15 : decode cX6_pairsBroughtInAllOrders 15 = .ok (.iload 7, 2) := by decide +kernel
theorem dX6_pairsBroughtInAllOrders_17 : decode cX6_pairsBroughtInAllOrders 17 = .ok (.aload_n 0, 1) := by decide +kernel
theorem dX6_pairsBroughtInAllOrders_18 : decode cX6_pairsBroughtInAllOrders 18 = .ok (.getfield 19, 3) := by decide +kernel
theorem dX6_pairsBroughtInAllOrders_21 : decode cX6_pairsBroughtInAllOrders 21 = .ok (.invokevirtual 184, 3) := by decide +kernel
theorem dX6_pairsBroughtInAllOrders_24 : decode cX6_pairsBroughtInAllOrders 24 = .ok (.if_icmp .gt 86, 3) := by decide +kernel
theorem dX6_pairsBroughtInAllOrders_27 : decode cX6_pairsBroughtInAllOrders 27 = .ok (.iload 7, 2) := by decide +kernel
theorem dX6_pairsBroughtInAllOrders_29 : decode cX6_pairsBroughtInAllOrders 29 = .ok (.iload 4, 2) := by decide +kernel
theorem dX6_pairsBroughtInAllOrders_31 : decode cX6_pairsBroughtInAllOrders 31 = .ok (.iconst (-1), 1) := by decide +kernel
theorem dX6_pairsBroughtInAllOrders_32 : decode cX6_pairsBroughtInAllOrders 32 = .ok (.ixor, 1) := by decide +kernel
theorem dX6_pairsBroughtInAllOrders_33 : decode cX6_pairsBroughtInAllOrders 33 = .ok (.iand, 1) := by decide +kernel
theorem dX6_pairsBroughtInAllOrders_34 : decode cX6_pairsBroughtInAllOrders 34 = .ok (.ifCond .ne 70, 3) := by decide +kernel
theorem dX6_pairsBroughtInAllOrders_37 : decode cX6_pairsBroughtInAllOrders 37 = .ok (.iload 7, 2) := by decide +kernel
theorem dX6_pairsBroughtInAllOrders_39 : decode cX6_pairsBroughtInAllOrders 39 = .ok (.invokestatic 156, 3) := by decide +kernel
theorem dX6_pairsBroughtInAllOrders_42 : decode cX6_pairsBroughtInAllOrders 42 = .ok (.istore 8, 2) := by decide +kernel
theorem dX6_pairsBroughtInAllOrders_44 : decode cX6_pairsBroughtInAllOrders 44 = .ok (.getstatic 226, 3) := by decide +kernel
theorem dX6_pairsBroughtInAllOrders_47 : decode cX6_pairsBroughtInAllOrders 47 = .ok (.iload 8, 2) := by decide +kernel
theorem dX6_pairsBroughtInAllOrders_49 : decode cX6_pairsBroughtInAllOrders 49 = .ok (.iaload, 1) := by decide +kernel
theorem dX6_pairsBroughtInAllOrders_50 : decode cX6_pairsBroughtInAllOrders 50 = .ok (.getstatic 226, 3) := by decide +kernel
theorem dX6_pairsBroughtInAllOrders_53 : decode cX6_pairsBroughtInAllOrders 53 = .ok (.iload_n 3, 1) := by decide +kernel
theorem dX6_pairsBroughtInAllOrders_54 : decode cX6_pairsBroughtInAllOrders 54 = .ok (.iconst 1, 1) := by decide +kernel
theorem dX6_pairsBroughtInAllOrders_55 : decode cX6_pairsBroughtInAllOrders 55 = .ok (.isub, 1) := by decide +kernel
theorem dX6_pairsBroughtInAllOrders_56 : decode cX6_pairsBroughtInAllOrders 56 = .ok (.iload 8, 2) := by decide +kernel
theorem dX6_pairsBroughtInAllOrders_58 : decode cX6_pairsBroughtInAllOrders 58 = .ok (.isub, 1) := by decide +kernel
theorem dX6_pairsBroughtInAllOrders_59 : decode cX6_pairsBroughtInAllOrders 59 = .ok (.iaload, 1) := by decide +kernel
theorem dX6_pairsBroughtInAllOrders_60 : decode cX6_pairsBroughtInAllOrders 60 = .ok (.imul, 1) := by decide +kernel
theorem dX6_pairsBroughtInAllOrders_61 : decode cX6_pairsBroughtInAllOrders 61 = .ok (.istore 9, 2) := by decide +kernel
theorem dX6_pairsBroughtInAllOrders_63 : decode cX6_pairsBroughtInAllOrders 63 = .ok (.aload_n 0, 1) := by decide +kernel
theorem dX6_pairsBroughtInAllOrders_64 : decode cX6_pairsBroughtInAllOrders 64 = .ok (.getfield 19, 3) := by decide +kernel
theorem dX6_pairsBroughtInAllOrders_67 : decode cX6_pairsBroughtInAllOrders 67 = .ok (.iload 7, 2) := by decide +kernel
theorem dX6_pairsBroughtInAllOrders_69 : decode cX6_pairsBroughtInAllOrders 69 = .ok (.iconst 1, 1) := by decide +kernel
theorem dX6_pairsBroughtInAllOrders_70 : decode cX6_pairsBroughtInAllOrders 70 = .ok (.iload_n 1, 1) := by decide +kernel
theorem dX6_pairsBroughtInAllOrders_71 : decode cX6_pairsBroughtInAllOrders 71 = .ok (.ishl, 1) := by decide +kernel
theorem dX6_pairsBroughtInAllOrders_72 : decode cX6_pairsBroughtInAllOrders 72 = .ok (.ior, 1) := by decide +kernel
theorem dX6_pairsBroughtInAllOrders_73 : decode cX6_pairsBroughtInAllOrders 73 = .ok (.iconst (-1), 1) := by decide +kernel
theorem dX6_pairsBroughtInAllOrders_74 : decode cX6_pairsBroughtInAllOrders 74 = .ok (.ixor, 1) := by decide +kernel
theorem dX6_pairsBroughtInAllOrders_75 : decode cX6_pairsBroughtInAllOrders 75 = .ok (.invokevirtual 250, 3) := by decide +kernel
theorem dX6_pairsBroughtInAllOrders_78 : decode cX6_pairsBroughtInAllOrders 78 = .ok (.istore 10, 2) := by decide +kernel
theorem dX6_pairsBroughtInAllOrders_80 : decode cX6_pairsBroughtInAllOrders 80 = .ok (.lload 5, 2) := by decide +kernel
theorem dX6_pairsBroughtInAllOrders_82 : decode cX6_pairsBroughtInAllOrders 82 = .ok (.iload 9, 2) := by decide +kernel
theorem dX6_pairsBroughtInAllOrders_84 : decode cX6_pairsBroughtInAllOrders 84 = .ok (.i2l, 1) := by decide +kernel
theorem dX6_pairsBroughtInAllOrders_85 : decode cX6_pairsBroughtInAllOrders 85 = .ok (.iload 10, 2) := by decide +kernel
theorem dX6_pairsBroughtInAllOrders_87 : decode cX6_pairsBroughtInAllOrders 87 = .ok (.aload_n 0, 1) := by decide +kernel
theorem dX6_pairsBroughtInAllOrders_88 : decode cX6_pairsBroughtInAllOrders 88 = .ok (.getfield 19, 3) := by decide +kernel
theorem dX6_pairsBroughtInAllOrders_91 : decode cX6_pairsBroughtInAllOrders 91 = .ok (.iload 7, 2) := by decide +kernel
theorem dX6_pairsBroughtInAllOrders_93 : decode cX6_pairsBroughtInAllOrders 93 = .ok (.iconst (-1), 1) := by decide +kernel
theorem dX6_pairsBroughtInAllOrders_94 : decode cX6_pairsBroughtInAllOrders 94 = .ok (.ixor, 1) := by decide +kernel
theorem dX6_pairsBroughtInAllOrders_95 : decode cX6_pairsBroughtInAllOrders 95 = .ok (.invokevirtual 250, 3) := by decide +kernel
theorem dX6_pairsBroughtInAllOrders_98 : decode cX6_pairsBroughtInAllOrders 98 = .ok (.isub, 1) := by decide +kernel
theorem dX6_pairsBroughtInAllOrders_99 : decode cX6_pairsBroughtInAllOrders 99 = .ok (.i2l, 1) := by decide +kernel
theorem dX6_pairsBroughtInAllOrders_100 : decode cX6_pairsBroughtInAllOrders 100 = .ok (.lmul, 1) := by decide +kernel
theorem dX6_pairsBroughtInAllOrders_101 : decode cX6_pairsBroughtInAllOrders 101 = .ok (.ladd, 1) := by decide +kernel
theorem dX6_pairsBroughtInAllOrders_102 : decode cX6_pairsBroughtInAllOrders 102 = .ok (.lstore 5, 2) := by decide +kernel
theorem dX6_pairsBroughtInAllOrders_104 : decode cX6_pairsBroughtInAllOrders 104 = .ok (.iinc 7 1, 3) := by decide +kernel
theorem dX6_pairsBroughtInAllOrders_107 : decode cX6_pairsBroughtInAllOrders 107 = .ok (.goto (-92), 3) := by decide +kernel
theorem dX6_pairsBroughtInAllOrders_110 : decode cX6_pairsBroughtInAllOrders 110 = .ok (.lload 5, 2) := by decide +kernel
theorem dX6_pairsBroughtInAllOrders_112 : decode cX6_pairsBroughtInAllOrders 112 = .ok (.lreturn, 1) := by decide +kernel
theorem dX6_reckonGains_0 : decode cX6_reckonGains 0 = .ok (.iconst 0, 1) := by decide +kernel
theorem dX6_reckonGains_1 : decode cX6_reckonGains 1 = .ok (.istore_n 3, 1) := by decide +kernel
theorem dX6_reckonGains_2 : decode cX6_reckonGains 2 = .ok (.iload_n 3, 1) := by decide +kernel
theorem dX6_reckonGains_3 : decode cX6_reckonGains 3 = .ok (.iconst 3, 1) := by decide +kernel
theorem dX6_reckonGains_4 : decode cX6_reckonGains 4 = .ok (.if_icmp .ge 146, 3) := by decide +kernel
theorem dX6_reckonGains_7 : decode cX6_reckonGains 7 = .ok (.iconst 0, 1) := by decide +kernel
theorem dX6_reckonGains_8 : decode cX6_reckonGains 8 = .ok (.istore 4, 2) := by decide +kernel
theorem dX6_reckonGains_10 : decode cX6_reckonGains 10 = .ok (.iload 4, 2) := by decide +kernel
theorem dX6_reckonGains_12 : decode cX6_reckonGains 12 = .ok (.iconst 3, 1) := by decide +kernel
theorem dX6_reckonGains_13 : decode cX6_reckonGains 13 = .ok (.if_icmp .ge 131, 3) := by decide +kernel
theorem dX6_reckonGains_16 : decode cX6_reckonGains 16 = .ok (.aload_n 0, 1) := by decide +kernel
theorem dX6_reckonGains_17 : decode cX6_reckonGains 17 = .ok (.getfield 39, 3) := by decide +kernel
theorem dX6_reckonGains_20 : decode cX6_reckonGains 20 = .ok (.aload_n 0, 1) := by decide +kernel
theorem dX6_reckonGains_21 : decode cX6_reckonGains 21 = .ok (.getfield 35, 3) := by decide +kernel
theorem dX6_reckonGains_24 : decode cX6_reckonGains 24 = .ok (.invokevirtual 169, 3) := by decide +kernel
theorem dX6_reckonGains_27 : decode cX6_reckonGains 27 = .ok (.aload_n 0, 1) := by decide +kernel
theorem dX6_reckonGains_28 : decode cX6_reckonGains 28 = .ok (.getfield 28, 3) := by decide +kernel
theorem dX6_reckonGains_31 : decode cX6_reckonGains 31 = .ok (.invokevirtual 172, 3) := by decide +kernel
theorem dX6_reckonGains_34 : decode cX6_reckonGains 34 = .ok (.aload_n 0, 1) := by decide +kernel
theorem dX6_reckonGains_35 : decode cX6_reckonGains 35 = .ok (.getfield 28, 3) := by decide +kernel
theorem dX6_reckonGains_38 : decode cX6_reckonGains 38 = .ok (.iload_n 1, 1) := by decide +kernel
theorem dX6_reckonGains_39 : decode cX6_reckonGains 39 = .ok (.iconst 3, 1) := by decide +kernel
theorem dX6_reckonGains_40 : decode cX6_reckonGains 40 = .ok (.iload_n 3, 1) := by decide +kernel
theorem dX6_reckonGains_41 : decode cX6_reckonGains 41 = .ok (.imul, 1) := by decide +kernel
theorem dX6_reckonGains_42 : decode cX6_reckonGains 42 = .ok (.invokevirtual 262, 3) := by decide +kernel
theorem dX6_reckonGains_45 : decode cX6_reckonGains 45 = .ok (.aload_n 0, 1) := by decide +kernel
theorem dX6_reckonGains_46 : decode cX6_reckonGains 46 = .ok (.getfield 28, 3) := by decide +kernel
theorem dX6_reckonGains_49 : decode cX6_reckonGains 49 = .ok (.iload_n 2, 1) := by decide +kernel
theorem dX6_reckonGains_50 : decode cX6_reckonGains 50 = .ok (.iconst 3, 1) := by decide +kernel
theorem dX6_reckonGains_51 : decode cX6_reckonGains 51 = .ok (.iload 4, 2) := by decide +kernel
theorem dX6_reckonGains_53 : decode cX6_reckonGains 53 = .ok (.imul, 1) := by decide +kernel
theorem dX6_reckonGains_54 : decode cX6_reckonGains 54 = .ok (.invokevirtual 262, 3) := by decide +kernel
theorem dX6_reckonGains_57 : decode cX6_reckonGains 57 = .ok (.aload_n 0, 1) := by decide +kernel
theorem dX6_reckonGains_58 : decode cX6_reckonGains 58 = .ok (.getfield 28, 3) := by decide +kernel
theorem dX6_reckonGains_61 : decode cX6_reckonGains 61 = .ok (.aload_n 0, 1) := by decide +kernel
theorem dX6_reckonGains_62 : decode cX6_reckonGains 62 = .ok (.getfield 39, 3) := by decide +kernel
theorem dX6_reckonGains_65 : decode cX6_reckonGains 65 = .ok (.invokevirtual 178, 3) := by decide +kernel
theorem dX6_reckonGains_68 : decode cX6_reckonGains 68 = .ok (.pop, 1) := by decide +kernel
theorem dX6_reckonGains_69 : decode cX6_reckonGains 69 = .ok (.aload_n 0, 1) := by decide +kernel
theorem dX6_reckonGains_70 : decode cX6_reckonGains 70 = .ok (.getfield 19, 3) := by decide +kernel
theorem dX6_reckonGains_73 : decode cX6_reckonGains 73 = .ok (.iload_n 1, 1) := by decide +kernel
theorem dX6_reckonGains_74 : decode cX6_reckonGains 74 = .ok (.iload_n 2, 1) := by decide +kernel
theorem dX6_reckonGains_75 : decode cX6_reckonGains 75 = .ok (.aload_n 0, 1) := by decide +kernel
theorem dX6_reckonGains_76 : decode cX6_reckonGains 76 = .ok (.getfield 39, 3) := by decide +kernel
theorem dX6_reckonGains_79 : decode cX6_reckonGains 79 = .ok (.getfield 135, 3) := by decide +kernel
theorem dX6_reckonGains_82 : decode cX6_reckonGains 82 = .ok (.invokevirtual 191, 3) := by decide +kernel
theorem dX6_reckonGains_85 : decode cX6_reckonGains 85 = .ok (.ifCond .eq 7, 3) := by decide +kernel
theorem dX6_reckonGains_88 : decode cX6_reckonGains 88 = .ok (.iconst 0, 1) := by decide +kernel
theorem dX6_reckonGains_89 : decode cX6_reckonGains 89 = .ok (.goto 4, 3) := by decide +kernel
theorem dX6_reckonGains_92 : decode cX6_reckonGains 92 = .ok (.iconst 4, 1) := by decide +kernel
theorem dX6_reckonGains_93 : decode cX6_reckonGains 93 = .ok (.istore 5, 2) := by decide +kernel
theorem dX6_reckonGains_95 : decode cX6_reckonGains 95 = .ok (.aload_n 0, 1) := by decide +kernel
theorem dX6_reckonGains_96 : decode cX6_reckonGains 96 = .ok (.getfield 64, 3) := by decide +kernel
theorem dX6_reckonGains_99 : decode cX6_reckonGains 99 = .ok (.iconst 3, 1) := by decide +kernel
theorem dX6_reckonGains_100 : decode cX6_reckonGains 100 = .ok (.iload_n 3, 1) := by decide +kernel
theorem dX6_reckonGains_101 : decode cX6_reckonGains 101 = .ok (.imul, 1) := by decide +kernel
theorem dX6_reckonGains_102 : decode cX6_reckonGains 102 = .ok (.iload 4, 2) := by decide +kernel
theorem dX6_reckonGains_104 : decode cX6_reckonGains 104 = .ok (.iadd, 1) := by decide +kernel
theorem dX6_reckonGains_105 : decode cX6_reckonGains 105 = .ok (.iload 5, 2) := by decide +kernel
theorem dX6_reckonGains_107 : decode cX6_reckonGains 107 = .ok (.iload_n 3, 1) := by decide +kernel
theorem dX6_reckonGains_108 : decode cX6_reckonGains 108 = .ok (.isub, 1) := by decide +kernel
theorem dX6_reckonGains_109 : decode cX6_reckonGains 109 = .ok (.aload_n 0, 1) := by decide +kernel
theorem dX6_reckonGains_110 : decode cX6_reckonGains 110 = .ok (.iload_n 1, 1) := by decide +kernel
theorem dX6_reckonGains_111 : decode cX6_reckonGains 111 = .ok (.invokevirtual 265, 3) := by decide +kernel
theorem dX6_reckonGains_114 : decode cX6_reckonGains 114 = .ok (.isub, 1) := by decide +kernel
theorem dX6_reckonGains_115 : decode cX6_reckonGains 115 = .ok (.iastore, 1) := by decide +kernel
theorem dX6_reckonGains_116 : decode cX6_reckonGains 116 = .ok (.aload_n 0, 1) := by decide +kernel
theorem dX6_reckonGains_117 : decode cX6_reckonGains 117 = .ok (.getfield 68, 3) := by decide +kernel
theorem dX6_reckonGains_120 : decode cX6_reckonGains 120 = .ok (.iconst 3, 1) := by decide +kernel
theorem dX6_reckonGains_121 : decode cX6_reckonGains 121 = .ok (.iload_n 3, 1) := by decide +kernel
theorem dX6_reckonGains_122 : decode cX6_reckonGains 122 = .ok (.imul, 1) := by decide +kernel
theorem dX6_reckonGains_123 : decode cX6_reckonGains 123 = .ok (.iload 4, 2) := by decide +kernel
theorem dX6_reckonGains_125 : decode cX6_reckonGains 125 = .ok (.iadd, 1) := by decide +kernel
theorem dX6_reckonGains_126 : decode cX6_reckonGains 126 = .ok (.iload 5, 2) := by decide +kernel
theorem dX6_reckonGains_128 : decode cX6_reckonGains 128 = .ok (.iload 4, 2) := by decide +kernel
theorem dX6_reckonGains_130 : decode cX6_reckonGains 130 = .ok (.isub, 1) := by decide +kernel
theorem dX6_reckonGains_131 : decode cX6_reckonGains 131 = .ok (.aload_n 0, 1) := by decide +kernel
theorem dX6_reckonGains_132 : decode cX6_reckonGains 132 = .ok (.iload_n 2, 1) := by decide +kernel
theorem dX6_reckonGains_133 : decode cX6_reckonGains 133 = .ok (.invokevirtual 265, 3) := by decide +kernel
theorem dX6_reckonGains_136 : decode cX6_reckonGains 136 = .ok (.isub, 1) := by decide +kernel
theorem dX6_reckonGains_137 : decode cX6_reckonGains 137 = .ok (.iastore, 1) := by decide +kernel
theorem dX6_reckonGains_138 : decode cX6_reckonGains 138 = .ok (.iinc 4 1, 3) := by decide +kernel
theorem dX6_reckonGains_141 : decode cX6_reckonGains 141 = .ok (.goto (-131), 3) := by decide +kernel
theorem dX6_reckonGains_144 : decode cX6_reckonGains 144 = .ok (.iinc 3 1, 3) := by decide +kernel
theorem dX6_reckonGains_147 : decode cX6_reckonGains 147 = .ok (.goto (-145), 3) := by decide +kernel
theorem dX6_reckonGains_150 : decode cX6_reckonGains 150 = .ok (.return_, 1) := by decide +kernel
theorem dX6_priceOfBeingAlone_0 : decode cX6_priceOfBeingAlone 0 = .ok (.aload_n 0, 1) := by decide +kernel
theorem dX6_priceOfBeingAlone_1 : decode cX6_priceOfBeingAlone 1 = .ok (.getfield 19, 3) := by decide +kernel
theorem dX6_priceOfBeingAlone_4 : decode cX6_priceOfBeingAlone 4 = .ok (.iload_n 1, 1) := by decide +kernel
theorem dX6_priceOfBeingAlone_5 : decode cX6_priceOfBeingAlone 5 = .ok (.aload_n 0, 1) := by decide +kernel
theorem dX6_priceOfBeingAlone_6 : decode cX6_priceOfBeingAlone 6 = .ok (.getfield 39, 3) := by decide +kernel
theorem dX6_priceOfBeingAlone_9 : decode cX6_priceOfBeingAlone 9 = .ok (.getfield 135, 3) := by decide +kernel
theorem dX6_priceOfBeingAlone_12 : decode cX6_priceOfBeingAlone 12 = .ok (.invokevirtual 138, 3) := by decide +kernel
theorem dX6_priceOfBeingAlone_15 : decode cX6_priceOfBeingAlone 15 = .ok (.iconst 1, 1) := by decide +kernel
theorem dX6_priceOfBeingAlone_16 : decode cX6_priceOfBeingAlone 16 = .ok (.iload_n 1, 1) := by decide +kernel
theorem dX6_priceOfBeingAlone_17 : decode cX6_priceOfBeingAlone 17 = .ok (.ishl, 1) := by decide +kernel
theorem dX6_priceOfBeingAlone_18 : decode cX6_priceOfBeingAlone 18 = .ok (.if_icmp .ne 7, 3) := by decide +kernel
theorem dX6_priceOfBeingAlone_21 : decode cX6_priceOfBeingAlone 21 = .ok (.iconst 2, 1) := by decide +kernel
theorem dX6_priceOfBeingAlone_22 : decode cX6_priceOfBeingAlone 22 = .ok (.goto 4, 3) := by decide +kernel
theorem dX6_priceOfBeingAlone_25 : decode cX6_priceOfBeingAlone 25 = .ok (.iconst 0, 1) := by decide +kernel
theorem dX6_priceOfBeingAlone_26 : decode cX6_priceOfBeingAlone 26 = .ok (.ireturn, 1) := by decide +kernel
theorem dX6_isAtRest_0 : decode cX6_isAtRest 0 = .ok (.iconst 3, 1) := by decide +kernel
theorem dX6_isAtRest_1 : decode cX6_isAtRest 1 = .ok (.iload_n 1, 1) := by decide +kernel
theorem dX6_isAtRest_2 : decode cX6_isAtRest 2 = .ok (.imul, 1) := by decide +kernel
theorem dX6_isAtRest_3 : decode cX6_isAtRest 3 = .ok (.iload_n 2, 1) := by decide +kernel
theorem dX6_isAtRest_4 : decode cX6_isAtRest 4 = .ok (.iadd, 1) := by decide +kernel
theorem dX6_isAtRest_5 : decode cX6_isAtRest 5 = .ok (.istore_n 3, 1) := by decide +kernel
theorem dX6_isAtRest_6 : decode cX6_isAtRest 6 = .ok (.iconst 0, 1) := by decide +kernel
theorem dX6_isAtRest_7 : decode cX6_isAtRest 7 = .ok (.istore 4, 2) := by decide +kernel
theorem dX6_isAtRest_9 : decode cX6_isAtRest 9 = .ok (.iload 4, 2) := by decide +kernel
theorem dX6_isAtRest_11 : decode cX6_isAtRest 11 = .ok (.iconst 3, 1) := by decide +kernel
theorem dX6_isAtRest_12 : decode cX6_isAtRest 12 = .ok (.if_icmp .ge 51, 3) := by decide +kernel
theorem dX6_isAtRest_15 : decode cX6_isAtRest 15 = .ok (.aload_n 0, 1) := by decide +kernel
theorem dX6_isAtRest_16 : decode cX6_isAtRest 16 = .ok (.getfield 64, 3) := by decide +kernel
theorem dX6_isAtRest_19 : decode cX6_isAtRest 19 = .ok (.iconst 3, 1) := by decide +kernel
theorem dX6_isAtRest_20 : decode cX6_isAtRest 20 = .ok (.iload 4, 2) := by decide +kernel
theorem dX6_isAtRest_22 : decode cX6_isAtRest 22 = .ok (.imul, 1) := by decide +kernel
theorem dX6_isAtRest_23 : decode cX6_isAtRest 23 = .ok (.iload_n 2, 1) := by decide +kernel
theorem dX6_isAtRest_24 : decode cX6_isAtRest 24 = .ok (.iadd, 1) := by decide +kernel
theorem dX6_isAtRest_25 : decode cX6_isAtRest 25 = .ok (.iaload, 1) := by decide +kernel
theorem dX6_isAtRest_26 : decode cX6_isAtRest 26 = .ok (.aload_n 0, 1) := by decide +kernel
theorem dX6_isAtRest_27 : decode cX6_isAtRest 27 = .ok (.getfield 64, 3) := by decide +kernel
theorem dX6_isAtRest_30 : decode cX6_isAtRest 30 = .ok (.iload_n 3, 1) := by decide +kernel
theorem dX6_isAtRest_31 : decode cX6_isAtRest 31 = .ok (.iaload, 1) := by decide +kernel
theorem dX6_isAtRest_32 : decode cX6_isAtRest 32 = .ok (.if_icmp .gt 23, 3) := by decide +kernel
theorem dX6_isAtRest_35 : decode cX6_isAtRest 35 = .ok (.aload_n 0, 1) := by decide +kernel
theorem dX6_isAtRest_36 : decode cX6_isAtRest 36 = .ok (.getfield 68, 3) := by decide +kernel
theorem dX6_isAtRest_39 : decode cX6_isAtRest 39 = .ok (.iconst 3, 1) := by decide +kernel
theorem dX6_isAtRest_40 : decode cX6_isAtRest 40 = .ok (.iload_n 1, 1) := by decide +kernel
theorem dX6_isAtRest_41 : decode cX6_isAtRest 41 = .ok (.imul, 1) := by decide +kernel
theorem dX6_isAtRest_42 : decode cX6_isAtRest 42 = .ok (.iload 4, 2) := by decide +kernel
theorem dX6_isAtRest_44 : decode cX6_isAtRest 44 = .ok (.iadd, 1) := by decide +kernel
theorem dX6_isAtRest_45 : decode cX6_isAtRest 45 = .ok (.iaload, 1) := by decide +kernel
theorem dX6_isAtRest_46 : decode cX6_isAtRest 46 = .ok (.aload_n 0, 1) := by decide +kernel
theorem dX6_isAtRest_47 : decode cX6_isAtRest 47 = .ok (.getfield 68, 3) := by decide +kernel
theorem dX6_isAtRest_50 : decode cX6_isAtRest 50 = .ok (.iload_n 3, 1) := by decide +kernel
theorem dX6_isAtRest_51 : decode cX6_isAtRest 51 = .ok (.iaload, 1) := by decide +kernel
theorem dX6_isAtRest_52 : decode cX6_isAtRest 52 = .ok (.if_icmp .le 5, 3) := by decide +kernel
theorem dX6_isAtRest_55 : decode cX6_isAtRest 55 = .ok (.iconst 0, 1) := by decide +kernel
theorem dX6_isAtRest_56 : decode cX6_isAtRest 56 = .ok (.ireturn, 1) := by decide +kernel
theorem dX6_isAtRest_57 : decode cX6_isAtRest 57 = .ok (.iinc 4 1, 3) := by decide +kernel
theorem dX6_isAtRest_60 : decode cX6_isAtRest 60 = .ok (.goto (-51), 3) := by decide +kernel
theorem dX6_isAtRest_63 : decode cX6_isAtRest 63 = .ok (.iconst 1, 1) := by decide +kernel
theorem dX6_isAtRest_64 : decode cX6_isAtRest 64 = .ok (.ireturn, 1) := by decide +kernel
theorem dX6_power_0 : decode cX6_power 0 = .ok (.lconst 1, 1) := by decide +kernel
theorem dX6_power_1 : decode cX6_power 1 = .ok (.lstore_n 2, 1) := by decide +kernel
theorem dX6_power_2 : decode cX6_power 2 = .ok (.iconst 0, 1) := by decide +kernel
theorem dX6_power_3 : decode cX6_power 3 = .ok (.istore 4, 2) := by decide +kernel
theorem dX6_power_5 : decode cX6_power 5 = .ok (.iload 4, 2) := by decide +kernel
theorem dX6_power_7 : decode cX6_power 7 = .ok (.iload_n 1, 1) := by decide +kernel
theorem dX6_power_8 : decode cX6_power 8 = .ok (.if_icmp .ge 14, 3) := by decide +kernel
theorem dX6_power_11 : decode cX6_power 11 = .ok (.lload_n 2, 1) := by decide +kernel
theorem dX6_power_12 : decode cX6_power 12 = .ok (.iload_n 0, 1) := by decide +kernel
theorem dX6_power_13 : decode cX6_power 13 = .ok (.i2l, 1) := by decide +kernel
theorem dX6_power_14 : decode cX6_power 14 = .ok (.lmul, 1) := by decide +kernel
theorem dX6_power_15 : decode cX6_power 15 = .ok (.lstore_n 2, 1) := by decide +kernel
theorem dX6_power_16 : decode cX6_power 16 = .ok (.iinc 4 1, 3) := by decide +kernel
theorem dX6_power_19 : decode cX6_power 19 = .ok (.goto (-14), 3) := by decide +kernel
theorem dX6_power_22 : decode cX6_power 22 = .ok (.lload_n 2, 1) := by decide +kernel
theorem dX6_power_23 : decode cX6_power 23 = .ok (.lreturn, 1) := by decide +kernel
theorem dX6_inLeastTerms_0 : decode cX6_inLeastTerms 0 = .ok (.lload_n 0, 1) := by decide +kernel
theorem dX6_inLeastTerms_1 : decode cX6_inLeastTerms 1 = .ok (.lload_n 2, 1) := by decide +kernel
theorem dX6_inLeastTerms_2 : decode cX6_inLeastTerms 2 = .ok (.invokestatic 268, 3) := by decide +kernel
theorem dX6_inLeastTerms_5 : decode cX6_inLeastTerms 5 = .ok (.lstore 5, 2) := by decide +kernel
theorem dX6_inLeastTerms_7 : decode cX6_inLeastTerms 7 = .ok (.iload 4, 2) := by decide +kernel
theorem dX6_inLeastTerms_9 : decode cX6_inLeastTerms 9 = .ok (.ifCond .eq 7, 3) := by decide +kernel
theorem dX6_inLeastTerms_12 : decode cX6_inLeastTerms 12 = .ok (.lload_n 0, 1) := by decide +kernel
theorem dX6_inLeastTerms_13 : decode cX6_inLeastTerms 13 = .ok (.goto 4, 3) := by decide +kernel
theorem dX6_inLeastTerms_16 : decode cX6_inLeastTerms 16 = .ok (.lload_n 2, 1) := by decide +kernel
theorem dX6_inLeastTerms_17 : decode cX6_inLeastTerms 17 = .ok (.lload 5, 2) := by decide +kernel
theorem dX6_inLeastTerms_19 : decode cX6_inLeastTerms 19 = .ok (.ldiv, 1) := by decide +kernel
theorem dX6_inLeastTerms_20 : decode cX6_inLeastTerms 20 = .ok (.l2i, 1) := by decide +kernel
theorem dX6_inLeastTerms_21 : decode cX6_inLeastTerms 21 = .ok (.ireturn, 1) := by decide +kernel
theorem dX6_commonDivisor_0 : decode cX6_commonDivisor 0 = .ok (.lload_n 0, 1) := by decide +kernel
theorem dX6_commonDivisor_1 : decode cX6_commonDivisor 1 = .ok (.lstore 4, 2) := by decide +kernel
theorem dX6_commonDivisor_3 : decode cX6_commonDivisor 3 = .ok (.lload_n 2, 1) := by decide +kernel
theorem dX6_commonDivisor_4 : decode cX6_commonDivisor 4 = .ok (.lstore 6, 2) := by decide +kernel
theorem dX6_commonDivisor_6 : decode cX6_commonDivisor 6 = .ok (.iconst 0, 1) := by decide +kernel
theorem dX6_commonDivisor_7 : decode cX6_commonDivisor 7 = .ok (.istore 8, 2) := by decide +kernel
theorem dX6_commonDivisor_9 : decode cX6_commonDivisor 9 = .ok (.iload 8, 2) := by decide +kernel
theorem dX6_commonDivisor_11 : decode cX6_commonDivisor 11 = .ok (.sipush 200, 3) := by decide +kernel
theorem dX6_commonDivisor_14 : decode cX6_commonDivisor 14 = .ok (.if_icmp .ge 31, 3) := by decide +kernel
theorem dX6_commonDivisor_17 : decode cX6_commonDivisor 17 = .ok (.lload 6, 2) := by decide +kernel
theorem dX6_commonDivisor_19 : decode cX6_commonDivisor 19 = .ok (.lconst 0, 1) := by decide +kernel
theorem dX6_commonDivisor_20 : decode cX6_commonDivisor 20 = .ok (.lcmp, 1) := by decide +kernel
theorem dX6_commonDivisor_21 : decode cX6_commonDivisor 21 = .ok (.ifCond .eq 24, 3) := by decide +kernel
theorem dX6_commonDivisor_24 : decode cX6_commonDivisor 24 = .ok (.lload 4, 2) := by decide +kernel
theorem dX6_commonDivisor_26 : decode cX6_commonDivisor 26 = .ok (.lload 6, 2) := by decide +kernel
theorem dX6_commonDivisor_28 : decode cX6_commonDivisor 28 = .ok (.lrem, 1) := by decide +kernel
theorem dX6_commonDivisor_29 : decode cX6_commonDivisor 29 = .ok (.lstore 9, 2) := by decide +kernel
theorem dX6_commonDivisor_31 : decode cX6_commonDivisor 31 = .ok (.lload 6, 2) := by decide +kernel
theorem dX6_commonDivisor_33 : decode cX6_commonDivisor 33 = .ok (.lstore 4, 2) := by decide +kernel
theorem dX6_commonDivisor_35 : decode cX6_commonDivisor 35 = .ok (.lload 9, 2) := by decide +kernel
theorem dX6_commonDivisor_37 : decode cX6_commonDivisor 37 = .ok (.lstore 6, 2) := by decide +kernel
theorem dX6_commonDivisor_39 : decode cX6_commonDivisor 39 = .ok (.iinc 8 1, 3) := by decide +kernel
theorem dX6_commonDivisor_42 : decode cX6_commonDivisor 42 = .ok (.goto (-33), 3) := by decide +kernel
theorem dX6_commonDivisor_45 : decode cX6_commonDivisor 45 = .ok (.lconst 1, 1) := by decide +kernel
theorem dX6_commonDivisor_46 : decode cX6_commonDivisor 46 = .ok (.lload 4, 2) := by decide +kernel
theorem dX6_commonDivisor_48 : decode cX6_commonDivisor 48 = .ok (.invokestatic 272, 3) := by decide +kernel
theorem dX6_commonDivisor_51 : decode cX6_commonDivisor 51 = .ok (.lreturn, 1) := by decide +kernel
