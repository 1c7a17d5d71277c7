theorem dX10_within_0 : decode cX10_within 0 = .ok (.lload_n 0, 1) := by decide +kernel
theorem dX10_within_1 : decode cX10_within 1 = .ok (.lload_n 2, 1) := by decide +kernel
theorem dX10_within_2 : decode cX10_within 2 = .ok (.lcmp, 1) := by decide +kernel
theorem dX10_within_3 : decode cX10_within 3 = .ok (.ifCond .lt 14, 3) := by decide +kernel
theorem dX10_within_17 : decode cX10_within 17 = .ok (.iconst 0, 1) := by decide +kernel
theorem dX10_within_18 : decode cX10_within 18 = .ok (.ireturn, 1) := by decide +kernel
theorem dX10_within_6 : decode cX10_within 6 = .ok (.lload_n 0, 1) := by decide +kernel
theorem dX10_within_7 : decode cX10_within 7 = .ok (.lload 4, 2) := by decide +kernel
theorem dX10_within_9 : decode cX10_within 9 = .ok (.lcmp, 1) := by decide +kernel
theorem dX10_within_10 : decode cX10_within 10 = .ok (.ifCond .gt 7, 3) := by decide +kernel
theorem dX10_within_13 : decode cX10_within 13 = .ok (.iconst 1, 1) := by decide +kernel
theorem dX10_within_14 : decode cX10_within 14 = .ok (.goto 4, 3) := by decide +kernel
theorem dX10_isHill_0 : decode cX10_isHill 0 = .ok (.lload_n 1, 1) := by decide +kernel
theorem dX10_isHill_1 : decode cX10_isHill 1 = .ok (.lconst 0, 1) := by decide +kernel
theorem dX10_isHill_2 : decode cX10_isHill 2 = .ok (.aload_n 0, 1) := by decide +kernel
theorem dX10_isHill_3 : decode cX10_isHill 3 = .ok (.getfield 13, 3) := by decide +kernel
theorem dX10_isHill_6 : decode cX10_isHill 6 = .ok (.iconst 1, 1) := by decide +kernel
theorem dX10_isHill_7 : decode cX10_isHill 7 = .ok (.iaload, 1) := by decide +kernel
theorem dX10_isHill_8 : decode cX10_isHill 8 = .ok (.iconst 1, 1) := by decide +kernel
theorem dX10_isHill_9 : decode cX10_isHill 9 = .ok (.isub, 1) := by decide +kernel
theorem dX10_isHill_10 : decode cX10_isHill 10 = .ok (.i2l, 1) := by decide +kernel
theorem dX10_isHill_11 : decode cX10_isHill 11 = .ok (.invokestatic 159, 3) := by decide +kernel
theorem dX10_isHill_14 : decode cX10_isHill 14 = .ok (.ireturn, 1) := by decide +kernel
theorem dX10_hill_0 : decode cX10_hill 0 = .ok (.aload_n 0, 1) := by decide +kernel
theorem dX10_hill_1 : decode cX10_hill 1 = .ok (.iconst 0, 1) := by decide +kernel
theorem dX10_hill_2 : decode cX10_hill 2 = .ok (.putfield 1, 3) := by decide +kernel
theorem dX10_hill_5 : decode cX10_hill 5 = .ok (.aload_n 0, 1) := by decide +kernel
theorem dX10_hill_6 : decode cX10_hill 6 = .ok (.iload_n 1, 1) := by decide +kernel
theorem dX10_hill_7 : decode cX10_hill 7 = .ok (.i2l, 1) := by decide +kernel
theorem dX10_hill_8 : decode cX10_hill 8 = .ok (.invokevirtual 262, 3) := by decide +kernel
theorem dX10_hill_11 : decode cX10_hill 11 = .ok (.ifCond .ne 6, 3) := by decide +kernel
theorem dX10_hill_14 : decode cX10_hill 14 = .ok (.bipush (-2), 2) := by decide +kernel
theorem dX10_hill_16 : decode cX10_hill 16 = .ok (.ireturn, 1) := by decide +kernel
theorem dX10_village_0 : decode cX10_village 0 = .ok (.aload_n 0, 1) := by decide +kernel
theorem dX10_village_1 : decode cX10_village 1 = .ok (.iconst 0, 1) := by decide +kernel
theorem dX10_village_2 : decode cX10_village 2 = .ok (.putfield 1, 3) := by decide +kernel
theorem dX10_village_5 : decode cX10_village 5 = .ok (.iload_n 1, 1) := by decide +kernel
theorem dX10_village_6 : decode cX10_village 6 = .ok (.i2l, 1) := by decide +kernel
theorem dX10_village_7 : decode cX10_village 7 = .ok (.lconst 0, 1) := by decide +kernel
theorem dX10_village_8 : decode cX10_village 8 = .ok (.aload_n 0, 1) := by decide +kernel
theorem dX10_village_9 : decode cX10_village 9 = .ok (.getfield 13, 3) := by decide +kernel
theorem dX10_village_12 : decode cX10_village 12 = .ok (.iconst 2, 1) := by decide +kernel
theorem dX10_village_13 : decode cX10_village 13 = .ok (.iaload, 1) := by decide +kernel
theorem dX10_village_14 : decode cX10_village 14 = .ok (.iconst 1, 1) := by decide +kernel
theorem dX10_village_15 : decode cX10_village 15 = .ok (.isub, 1) := by decide +kernel
theorem dX10_village_16 : decode cX10_village 16 = .ok (.i2l, 1) := by decide +kernel
theorem dX10_village_17 : decode cX10_village 17 = .ok (.invokestatic 159, 3) := by decide +kernel
theorem dX10_village_20 : decode cX10_village 20 = .ok (.ifCond .eq 15, 3) := by decide +kernel
theorem dX10_village_35 : decode cX10_village 35 = .ok (.bipush (-2), 2) := by decide +kernel
theorem dX10_village_37 : decode cX10_village 37 = .ok (.ireturn, 1) := by decide +kernel
theorem dX10_takes_0 : decode cX10_takes 0 = .ok (.aload_n 0, 1) := by decide +kernel
theorem dX10_takes_1 : decode cX10_takes 1 = .ok (.iconst 0, 1) := by decide +kernel
theorem dX10_takes_2 : decode cX10_takes 2 = .ok (.putfield 1, 3) := by decide +kernel
theorem dX10_takes_5 : decode cX10_takes 5 = .ok (.aload_n 0, 1) := by decide +kernel
theorem dX10_takes_6 : decode cX10_takes 6 = .ok (.iload_n 2, 1) := by decide +kernel
theorem dX10_takes_7 : decode cX10_takes 7 = .ok (.i2l, 1) := by decide +kernel
theorem dX10_takes_8 : decode cX10_takes 8 = .ok (.invokevirtual 262, 3) := by decide +kernel
theorem dX10_takes_11 : decode cX10_takes 11 = .ok (.ifCond .ne 6, 3) := by decide +kernel
theorem dX10_takes_14 : decode cX10_takes 14 = .ok (.bipush (-2), 2) := by decide +kernel
theorem dX10_takes_16 : decode cX10_takes 16 = .ok (.ireturn, 1) := by decide +kernel
theorem dX10_by_0 : decode cX10_by 0 = .ok (.aload_n 0, 1) := by decide +kernel
theorem dX10_by_1 : decode cX10_by 1 = .ok (.iconst 0, 1) := by decide +kernel
theorem dX10_by_2 : decode cX10_by 2 = .ok (.putfield 1, 3) := by decide +kernel
theorem dX10_by_5 : decode cX10_by 5 = .ok (.aload_n 0, 1) := by decide +kernel
theorem dX10_by_6 : decode cX10_by 6 = .ok (.iload_n 2, 1) := by decide +kernel
theorem dX10_by_7 : decode cX10_by 7 = .ok (.i2l, 1) := by decide +kernel
theorem dX10_by_8 : decode cX10_by 8 = .ok (.invokevirtual 262, 3) := by decide +kernel
theorem dX10_by_11 : decode cX10_by 11 = .ok (.ifCond .ne 6, 3) := by decide +kernel
theorem dX10_by_14 : decode cX10_by 14 = .ok (.bipush (-2), 2) := by decide +kernel
theorem dX10_by_16 : decode cX10_by 16 = .ok (.ireturn, 1) := by decide +kernel
theorem dX10_whySteal_0 : decode cX10_whySteal 0 = .ok (.aload_n 0, 1) := by decide +kernel
theorem dX10_whySteal_1 : decode cX10_whySteal 1 = .ok (.lload_n 1, 1) := by decide +kernel
theorem dX10_whySteal_2 : decode cX10_whySteal 2 = .ok (.invokevirtual 262, 3) := by decide +kernel
theorem dX10_whySteal_5 : decode cX10_whySteal 5 = .ok (.ifCond .ne 7, 3) := by decide +kernel
theorem dX10_whySteal_8 : decode cX10_whySteal 8 = .ok (.iconst 1, 1) := by decide +kernel
theorem dX10_whySteal_9 : decode cX10_whySteal 9 = .ok (.goto 21, 3) := by decide +kernel
theorem dX10_whySteal_30 : decode cX10_whySteal 30 = .ok (.ireturn, 1) := by decide +kernel
theorem dX10_steal_0 : decode cX10_steal 0 = .ok (.aload_n 0, 1) := by decide +kernel
theorem dX10_steal_1 : decode cX10_steal 1 = .ok (.iconst 0, 1) := by decide +kernel
theorem dX10_steal_2 : decode cX10_steal 2 = .ok (.putfield 1, 3) := by decide +kernel
theorem dX10_steal_5 : decode cX10_steal 5 = .ok (.aload_n 0, 1) := by decide +kernel
theorem dX10_steal_6 : decode cX10_steal 6 = .ok (.iload_n 1, 1) := by decide +kernel
theorem dX10_steal_7 : decode cX10_steal 7 = .ok (.i2l, 1) := by decide +kernel
theorem dX10_steal_8 : decode cX10_steal 8 = .ok (.invokevirtual 289, 3) := by decide +kernel
theorem dX10_steal_11 : decode cX10_steal 11 = .ok (.istore_n 2, 1) := by decide +kernel
theorem dX10_steal_12 : decode cX10_steal 12 = .ok (.iload_n 2, 1) := by decide +kernel
theorem dX10_steal_13 : decode cX10_steal 13 = .ok (.ifCond .eq 8, 3) := by decide +kernel
theorem dX10_steal_16 : decode cX10_steal 16 = .ok (.bipush (-10), 2) := by decide +kernel
theorem dX10_steal_18 : decode cX10_steal 18 = .ok (.iload_n 2, 1) := by decide +kernel
theorem dX10_steal_19 : decode cX10_steal 19 = .ok (.isub, 1) := by decide +kernel
theorem dX10_steal_20 : decode cX10_steal 20 = .ok (.ireturn, 1) := by decide +kernel
theorem dX10_undo_0 : decode cX10_undo 0 = .ok (.aload_n 0, 1) := by decide +kernel
theorem dX10_undo_1 : decode cX10_undo 1 = .ok (.iconst 0, 1) := by decide +kernel
theorem dX10_undo_2 : decode cX10_undo 2 = .ok (.putfield 1, 3) := by decide +kernel
theorem dX10_undo_5 : decode cX10_undo 5 = .ok (.iload_n 1, 1) := by decide +kernel
theorem dX10_undo_6 : decode cX10_undo 6 = .ok (.i2l, 1) := by decide +kernel
theorem dX10_undo_7 : decode cX10_undo 7 = .ok (.lconst 1, 1) := by decide +kernel
theorem dX10_undo_8 : decode cX10_undo 8 = .ok (.ldc2_w 298, 3) := by decide +kernel
theorem dX10_undo_11 : decode cX10_undo 11 = .ok (.invokestatic 159, 3) := by decide +kernel
theorem dX10_undo_14 : decode cX10_undo 14 = .ok (.ifCond .eq 14, 3) := by decide +kernel
theorem dX10_undo_28 : decode cX10_undo 28 = .ok (.bipush (-3), 2) := by decide +kernel
theorem dX10_undo_30 : decode cX10_undo 30 = .ok (.ireturn, 1) := by decide +kernel
theorem dX10_undo_17 : decode cX10_undo 17 = .ok (.iload_n 1, 1) := by decide +kernel
theorem dX10_undo_18 : decode cX10_undo 18 = .ok (.aload_n 0, 1) := by decide +kernel
theorem dX10_undo_19 : decode cX10_undo 19 = .ok (.getfield 13, 3) := by decide +kernel
theorem dX10_undo_22 : decode cX10_undo 22 = .ok (.bipush 53, 2) := by decide +kernel
theorem dX10_undo_24 : decode cX10_undo 24 = .ok (.iaload, 1) := by decide +kernel
theorem dX10_undo_25 : decode cX10_undo 25 = .ok (.if_icmp .le 6, 3) := by decide +kernel
theorem dX10_fault_0 : decode cX10_fault 0 = .ok (.aload_n 0, 1) := by decide +kernel
theorem dX10_fault_1 : decode cX10_fault 1 = .ok (.iconst 0, 1) := by decide +kernel
theorem dX10_fault_2 : decode cX10_fault 2 = .ok (.putfield 1, 3) := by decide +kernel
theorem dX10_fault_5 : decode cX10_fault 5 = .ok (.iload_n 1, 1) := by decide +kernel
theorem dX10_fault_6 : decode cX10_fault 6 = .ok (.ifCond .ne 10, 3) := by decide +kernel
theorem dX10_fault_16 : decode cX10_fault 16 = .ok (.iload_n 1, 1) := by decide +kernel
theorem dX10_fault_17 : decode cX10_fault 17 = .ok (.iconst 1, 1) := by decide +kernel
theorem dX10_fault_18 : decode cX10_fault 18 = .ok (.if_icmp .ne 10, 3) := by decide +kernel
theorem dX10_fault_28 : decode cX10_fault 28 = .ok (.iconst (-1), 1) := by decide +kernel
theorem dX10_fault_29 : decode cX10_fault 29 = .ok (.ireturn, 1) := by decide +kernel
theorem dX10_fault_21 : decode cX10_fault 21 = .ok (.aload_n 0, 1) := by decide +kernel
theorem dX10_fault_22 : decode cX10_fault 22 = .ok (.getfield 27, 3) := by decide +kernel
theorem dX10_fault_25 : decode cX10_fault 25 = .ok (.goto 4, 3) := by decide +kernel
theorem dX10_fault_9 : decode cX10_fault 9 = .ok (.aload_n 0, 1) := by decide +kernel
theorem dX10_fault_10 : decode cX10_fault 10 = .ok (.getfield 225, 3) := by decide +kernel
theorem dX10_fault_13 : decode cX10_fault 13 = .ok (.goto 16, 3) := by decide +kernel
theorem dX10_noTray_0 : decode cX10_noTray 0 = .ok (.iload_n 1, 1) := by decide +kernel
theorem dX10_noTray_1 : decode cX10_noTray 1 = .ok (.i2l, 1) := by decide +kernel
theorem dX10_noTray_2 : decode cX10_noTray 2 = .ok (.lconst 0, 1) := by decide +kernel
theorem dX10_noTray_3 : decode cX10_noTray 3 = .ok (.ldc2_w 315, 3) := by decide +kernel
theorem dX10_noTray_6 : decode cX10_noTray 6 = .ok (.invokestatic 159, 3) := by decide +kernel
theorem dX10_noTray_9 : decode cX10_noTray 9 = .ok (.ifCond .ne 8, 3) := by decide +kernel
theorem dX10_noTray_12 : decode cX10_noTray 12 = .ok (.bipush (-2), 2) := by decide +kernel
theorem dX10_noTray_14 : decode cX10_noTray 14 = .ok (.goto 19, 3) := by decide +kernel
theorem dX10_noTray_33 : decode cX10_noTray 33 = .ok (.ireturn, 1) := by decide +kernel
theorem dX10_noTray_17 : decode cX10_noTray 17 = .ok (.aload_n 0, 1) := by decide +kernel
theorem dX10_noTray_18 : decode cX10_noTray 18 = .ok (.getfield 84, 3) := by decide +kernel
theorem dX10_noTray_21 : decode cX10_noTray 21 = .ok (.iload_n 1, 1) := by decide +kernel
theorem dX10_noTray_22 : decode cX10_noTray 22 = .ok (.iaload, 1) := by decide +kernel
theorem dX10_noTray_23 : decode cX10_noTray 23 = .ok (.iconst (-1), 1) := by decide +kernel
theorem dX10_noTray_24 : decode cX10_noTray 24 = .ok (.if_icmp .ne 8, 3) := by decide +kernel
theorem dX10_noTray_27 : decode cX10_noTray 27 = .ok (.bipush (-6), 2) := by decide +kernel
theorem dX10_noTray_29 : decode cX10_noTray 29 = .ok (.goto 4, 3) := by decide +kernel
theorem dX10_judge_0 : decode cX10_judge 0 = .ok (.aload_n 0, 1) := by decide +kernel
theorem dX10_judge_1 : decode cX10_judge 1 = .ok (.iconst 0, 1) := by decide +kernel
theorem dX10_judge_2 : decode cX10_judge 2 = .ok (.putfield 1, 3) := by decide +kernel
theorem dX10_judge_5 : decode cX10_judge 5 = .ok (.iload_n 2, 1) := by decide +kernel
theorem dX10_judge_6 : decode cX10_judge 6 = .ok (.i2l, 1) := by decide +kernel
theorem dX10_judge_7 : decode cX10_judge 7 = .ok (.lconst 0, 1) := by decide +kernel
theorem dX10_judge_8 : decode cX10_judge 8 = .ok (.ldc2_w 315, 3) := by decide +kernel
theorem dX10_judge_11 : decode cX10_judge 11 = .ok (.invokestatic 159, 3) := by decide +kernel
theorem dX10_judge_14 : decode cX10_judge 14 = .ok (.ifCond .ne 6, 3) := by decide +kernel
theorem dX10_judge_17 : decode cX10_judge 17 = .ok (.bipush (-2), 2) := by decide +kernel
theorem dX10_judge_19 : decode cX10_judge 19 = .ok (.ireturn, 1) := by decide +kernel
theorem dX10_judge_20 : decode cX10_judge 20 = .ok (.aload_n 0, 1) := by decide +kernel
theorem dX10_judge_21 : decode cX10_judge 21 = .ok (.iload_n 1, 1) := by decide +kernel
theorem dX10_judge_22 : decode cX10_judge 22 = .ok (.invokevirtual 317, 3) := by decide +kernel
theorem dX10_judge_25 : decode cX10_judge 25 = .ok (.istore_n 3, 1) := by decide +kernel
theorem dX10_judge_26 : decode cX10_judge 26 = .ok (.iload_n 3, 1) := by decide +kernel
theorem dX10_judge_27 : decode cX10_judge 27 = .ok (.ifCond .eq 5, 3) := by decide +kernel
theorem dX10_judge_30 : decode cX10_judge 30 = .ok (.iload_n 3, 1) := by decide +kernel
theorem dX10_judge_31 : decode cX10_judge 31 = .ok (.ireturn, 1) := by decide +kernel
theorem dX10_noHigh_0 : decode cX10_noHigh 0 = .ok (.aload_n 0, 1) := by decide +kernel
theorem dX10_noHigh_1 : decode cX10_noHigh 1 = .ok (.iload_n 1, 1) := by decide +kernel
theorem dX10_noHigh_2 : decode cX10_noHigh 2 = .ok (.i2l, 1) := by decide +kernel
theorem dX10_noHigh_3 : decode cX10_noHigh 3 = .ok (.invokevirtual 262, 3) := by decide +kernel
theorem dX10_noHigh_6 : decode cX10_noHigh 6 = .ok (.ifCond .ne 8, 3) := by decide +kernel
theorem dX10_noHigh_9 : decode cX10_noHigh 9 = .ok (.bipush (-2), 2) := by decide +kernel
theorem dX10_noHigh_11 : decode cX10_noHigh 11 = .ok (.goto 16, 3) := by decide +kernel
theorem dX10_noHigh_27 : decode cX10_noHigh 27 = .ok (.ireturn, 1) := by decide +kernel
theorem dX10_soonest_0 : decode cX10_soonest 0 = .ok (.aload_n 0, 1) := by decide +kernel
theorem dX10_soonest_1 : decode cX10_soonest 1 = .ok (.iconst 0, 1) := by decide +kernel
theorem dX10_soonest_2 : decode cX10_soonest 2 = .ok (.putfield 1, 3) := by decide +kernel
theorem dX10_soonest_5 : decode cX10_soonest 5 = .ok (.aload_n 0, 1) := by decide +kernel
theorem dX10_soonest_6 : decode cX10_soonest 6 = .ok (.iload_n 1, 1) := by decide +kernel
theorem dX10_soonest_7 : decode cX10_soonest 7 = .ok (.iload_n 2, 1) := by decide +kernel
theorem dX10_soonest_8 : decode cX10_soonest 8 = .ok (.invokevirtual 373, 3) := by decide +kernel
theorem dX10_soonest_11 : decode cX10_soonest 11 = .ok (.istore_n 3, 1) := by decide +kernel
theorem dX10_soonest_12 : decode cX10_soonest 12 = .ok (.iload_n 3, 1) := by decide +kernel
theorem dX10_soonest_13 : decode cX10_soonest 13 = .ok (.ifCond .eq 7, 3) := by decide +kernel
theorem dX10_soonest_16 : decode cX10_soonest 16 = .ok (.iload_n 3, 1) := by decide +kernel
theorem dX10_soonest_17 : decode cX10_soonest 17 = .ok (.goto 12, 3) := by decide +kernel
theorem dX10_soonest_29 : decode cX10_soonest 29 = .ok (.ireturn, 1) := by decide +kernel
theorem dX10_isNight_0 : decode cX10_isNight 0 = .ok (.lload_n 1, 1) := by decide +kernel
theorem dX10_isNight_1 : decode cX10_isNight 1 = .ok (.lconst 0, 1) := by decide +kernel
theorem dX10_isNight_2 : decode cX10_isNight 2 = .ok (.lcmp, 1) := by decide +kernel
theorem dX10_isNight_3 : decode cX10_isNight 3 = .ok (.ifCond .eq 20, 3) := by decide +kernel
theorem dX10_isNight_23 : decode cX10_isNight 23 = .ok (.iconst 1, 1) := by decide +kernel
theorem dX10_isNight_24 : decode cX10_isNight 24 = .ok (.goto 4, 3) := by decide +kernel
theorem dX10_isNight_28 : decode cX10_isNight 28 = .ok (.ireturn, 1) := by decide +kernel
theorem dX10_isNight_6 : decode cX10_isNight 6 = .ok (.lload_n 1, 1) := by decide +kernel
theorem dX10_isNight_7 : decode cX10_isNight 7 = .ok (.lconst 1, 1) := by decide +kernel
theorem dX10_isNight_8 : decode cX10_isNight 8 = .ok (.aload_n 0, 1) := by decide +kernel
theorem dX10_isNight_9 : decode cX10_isNight 9 = .ok (.getfield 13, 3) := by decide +kernel
theorem dX10_isNight_12 : decode cX10_isNight 12 = .ok (.iconst 1, 1) := by decide +kernel
theorem dX10_isNight_13 : decode cX10_isNight 13 = .ok (.iaload, 1) := by decide +kernel
theorem dX10_isNight_14 : decode cX10_isNight 14 = .ok (.iconst 1, 1) := by decide +kernel
theorem dX10_isNight_15 : decode cX10_isNight 15 = .ok (.isub, 1) := by decide +kernel
theorem dX10_isNight_16 : decode cX10_isNight 16 = .ok (.i2l, 1) := by decide +kernel
theorem dX10_isNight_17 : decode cX10_isNight 17 = .ok (.invokestatic 159, 3) := by decide +kernel
theorem dX10_isNight_20 : decode cX10_isNight 20 = .ok (.ifCond .eq 7, 3) := by decide +kernel
theorem dX10_isNight_27 : decode cX10_isNight 27 = .ok (.iconst 0, 1) := by decide +kernel
theorem dX10_stores_0 : decode cX10_stores 0 = .ok (.iconst 0, 1) := by decide +kernel
theorem dX10_stores_1 : decode cX10_stores 1 = .ok (.istore_n 1, 1) := by decide +kernel
theorem dX10_stores_2 : decode cX10_stores 2 = .ok (.iload_n 1, 1) := by decide +kernel
theorem dX10_stores_3 : decode cX10_stores 3 = .ok (.bipush 7, 2) := by decide +kernel
theorem dX10_stores_5 : decode cX10_stores 5 = .ok (.if_icmp .ge 24, 3) := by decide +kernel
theorem dX10_stores_8 : decode cX10_stores 8 = .ok (.aload_n 0, 1) := by decide +kernel
theorem dX10_stores_9 : decode cX10_stores 9 = .ok (.getfield 36, 3) := by decide +kernel
theorem dX10_stores_12 : decode cX10_stores 12 = .ok (.iload_n 1, 1) := by decide +kernel
theorem dX10_stores_13 : decode cX10_stores 13 = .ok (.aload_n 0, 1) := by decide +kernel
theorem dX10_stores_14 : decode cX10_stores 14 = .ok (.getfield 13, 3) := by decide +kernel
theorem dX10_stores_17 : decode cX10_stores 17 = .ok (.bipush 46, 2) := by decide +kernel
theorem dX10_stores_19 : decode cX10_stores 19 = .ok (.iload_n 1, 1) := by decide +kernel
theorem dX10_stores_20 : decode cX10_stores 20 = .ok (.iadd, 1) := by decide +kernel
theorem dX10_stores_21 : decode cX10_stores 21 = .ok (.iaload, 1) := by decide +kernel
theorem dX10_stores_22 : decode cX10_stores 22 = .ok (.iastore, 1) := by decide +kernel
theorem dX10_stores_23 : decode cX10_stores 23 = .ok (.iinc 1 1, 3) := by decide +kernel
theorem dX10_stores_26 : decode cX10_stores 26 = .ok (.goto (-24), 3) := by decide +kernel
theorem dX10_stores_29 : decode cX10_stores 29 = .ok (.return_, 1) := by decide +kernel
theorem dX10_standNow_0 : decode cX10_standNow 0 = .ok (.sipush 625, 3) := by decide +kernel
theorem dX10_standNow_3 : decode cX10_standNow 3 = .ok (.aload_n 0, 1) := by decide +kernel
theorem dX10_standNow_4 : decode cX10_standNow 4 = .ok (.getfield 13, 3) := by decide +kernel
theorem dX10_standNow_7 : decode cX10_standNow 7 = .ok (.bipush 50, 2) := by decide +kernel
theorem dX10_standNow_9 : decode cX10_standNow 9 = .ok (.iaload, 1) := by decide +kernel
theorem dX10_standNow_10 : decode cX10_standNow 10 = .ok (.imul, 1) := by decide +kernel
theorem dX10_standNow_11 : decode cX10_standNow 11 = .ok (.istore_n 1, 1) := by decide +kernel
theorem dX10_standNow_12 : decode cX10_standNow 12 = .ok (.iconst 0, 1) := by decide +kernel
theorem dX10_standNow_13 : decode cX10_standNow 13 = .ok (.istore_n 2, 1) := by decide +kernel
theorem dX10_standNow_14 : decode cX10_standNow 14 = .ok (.iload_n 2, 1) := by decide +kernel
theorem dX10_standNow_15 : decode cX10_standNow 15 = .ok (.aload_n 0, 1) := by decide +kernel
theorem dX10_standNow_16 : decode cX10_standNow 16 = .ok (.getfield 13, 3) := by decide +kernel
theorem dX10_standNow_19 : decode cX10_standNow 19 = .ok (.iconst 1, 1) := by decide +kernel
theorem dX10_standNow_20 : decode cX10_standNow 20 = .ok (.iaload, 1) := by decide +kernel
theorem dX10_standNow_21 : decode cX10_standNow 21 = .ok (.if_icmp .ge 26, 3) := by decide +kernel
theorem dX10_standNow_47 : decode cX10_standNow 47 = .ok (.iload_n 1, 1) := by decide +kernel
theorem dX10_standNow_48 : decode cX10_standNow 48 = .ok (.ireturn, 1) := by decide +kernel
theorem dX10_nightTo_0 : decode cX10_nightTo 0 = .ok (.iconst 0, 1) := by decide +kernel
theorem dX10_nightTo_1 : decode cX10_nightTo 1 = .ok (.istore 4, 2) := by decide +kernel
theorem dX10_nightTo_3 : decode cX10_nightTo 3 = .ok (.iconst 0, 1) := by decide +kernel
theorem dX10_nightTo_4 : decode cX10_nightTo 4 = .ok (.istore 5, 2) := by decide +kernel
theorem dX10_nightTo_6 : decode cX10_nightTo 6 = .ok (.iload 5, 2) := by decide +kernel
theorem dX10_nightTo_8 : decode cX10_nightTo 8 = .ok (.aload_n 0, 1) := by decide +kernel
theorem dX10_nightTo_9 : decode cX10_nightTo 9 = .ok (.getfield 13, 3) := by decide +kernel
theorem dX10_nightTo_12 : decode cX10_nightTo 12 = .ok (.iconst 1, 1) := by decide +kernel
theorem dX10_nightTo_13 : decode cX10_nightTo 13 = .ok (.iaload, 1) := by decide +kernel
theorem dX10_nightTo_14 : decode cX10_nightTo 14 = .ok (.if_icmp .ge 84, 3) := by decide +kernel
theorem dX10_nightTo_98 : decode cX10_nightTo 98 = .ok (.iload 4, 2) := by decide +kernel
theorem dX10_nightTo_100 : decode cX10_nightTo 100 = .ok (.ireturn, 1) := by decide +kernel
theorem dX10_tookIn_0 : decode cX10_tookIn 0 = .ok (.iload_n 0, 1) := by decide +kernel
theorem dX10_tookIn_1 : decode cX10_tookIn 1 = .ok (.sipush 625, 3) := by decide +kernel
theorem dX10_tookIn_4 : decode cX10_tookIn 4 = .ok (.idiv, 1) := by decide +kernel
theorem dX10_tookIn_5 : decode cX10_tookIn 5 = .ok (.ireturn, 1) := by decide +kernel
theorem dX10_isStand_0 : decode cX10_isStand 0 = .ok (.iconst 0, 1) := by decide +kernel
theorem dX10_isStand_1 : decode cX10_isStand 1 = .ok (.istore_n 2, 1) := by decide +kernel
theorem dX10_isStand_2 : decode cX10_isStand 2 = .ok (.iload_n 2, 1) := by decide +kernel
theorem dX10_isStand_3 : decode cX10_isStand 3 = .ok (.aload_n 0, 1) := by decide +kernel
theorem dX10_isStand_4 : decode cX10_isStand 4 = .ok (.getfield 13, 3) := by decide +kernel
theorem dX10_isStand_7 : decode cX10_isStand 7 = .ok (.iconst 1, 1) := by decide +kernel
theorem dX10_isStand_8 : decode cX10_isStand 8 = .ok (.iaload, 1) := by decide +kernel
theorem dX10_isStand_9 : decode cX10_isStand 9 = .ok (.if_icmp .ge 23, 3) := by decide +kernel
theorem dX10_isStand_32 : decode cX10_isStand 32 = .ok (.aload_n 0, 1) := by decide +kernel
theorem dX10_isStand_33 : decode cX10_isStand 33 = .ok (.getfield 13, 3) := by decide +kernel
theorem dX10_isStand_36 : decode cX10_isStand 36 = .ok (.bipush 50, 2) := by decide +kernel
theorem dX10_isStand_38 : decode cX10_isStand 38 = .ok (.iload_n 1, 1) := by decide +kernel
theorem dX10_isStand_39 : decode cX10_isStand 39 = .ok (.invokestatic 234, 3) := by decide +kernel
theorem dX10_isStand_42 : decode cX10_isStand 42 = .ok (.iastore, 1) := by decide +kernel
theorem dX10_isStand_43 : decode cX10_isStand 43 = .ok (.return_, 1) := by decide +kernel
theorem dX10_goesNight_0 : decode cX10_goesNight 0 = .ok (.aload_n 0, 1) := by decide +kernel
theorem dX10_goesNight_1 : decode cX10_goesNight 1 = .ok (.aload_n 0, 1) := by decide +kernel
theorem dX10_goesNight_2 : decode cX10_goesNight 2 = .ok (.aload_n 0, 1) := by decide +kernel
theorem dX10_goesNight_3 : decode cX10_goesNight 3 = .ok (.invokevirtual 269, 3) := by decide +kernel
theorem dX10_goesNight_6 : decode cX10_goesNight 6 = .ok (.iload_n 1, 1) := by decide +kernel
theorem dX10_goesNight_7 : decode cX10_goesNight 7 = .ok (.aload_n 0, 1) := by decide +kernel
theorem dX10_goesNight_8 : decode cX10_goesNight 8 = .ok (.getfield 13, 3) := by decide +kernel
theorem dX10_goesNight_11 : decode cX10_goesNight 11 = .ok (.bipush 51, 2) := by decide +kernel
theorem dX10_goesNight_13 : decode cX10_goesNight 13 = .ok (.iaload, 1) := by decide +kernel
theorem dX10_goesNight_14 : decode cX10_goesNight 14 = .ok (.invokevirtual 272, 3) := by decide +kernel
theorem dX10_goesNight_17 : decode cX10_goesNight 17 = .ok (.invokevirtual 275, 3) := by decide +kernel
theorem dX10_goesNight_20 : decode cX10_goesNight 20 = .ok (.aload_n 0, 1) := by decide +kernel
theorem dX10_goesNight_21 : decode cX10_goesNight 21 = .ok (.getfield 13, 3) := by decide +kernel
theorem dX10_goesNight_24 : decode cX10_goesNight 24 = .ok (.bipush 52, 2) := by decide +kernel
theorem dX10_goesNight_26 : decode cX10_goesNight 26 = .ok (.dup2, 1) := by decide +kernel
theorem dX10_goesNight_27 : decode cX10_goesNight 27 = .ok (.iaload, 1) := by decide +kernel
theorem dX10_goesNight_28 : decode cX10_goesNight 28 = .ok (.iconst 1, 1) := by decide +kernel
theorem dX10_goesNight_29 : decode cX10_goesNight 29 = .ok (.iadd, 1) := by decide +kernel
theorem dX10_goesNight_30 : decode cX10_goesNight 30 = .ok (.iastore, 1) := by decide +kernel
theorem dX10_goesNight_31 : decode cX10_goesNight 31 = .ok (.return_, 1) := by decide +kernel
theorem dX10_notes_0 : decode cX10_notes 0 = .ok (.aload_n 0, 1) := by decide +kernel
theorem dX10_notes_1 : decode cX10_notes 1 = .ok (.getfield 13, 3) := by decide +kernel
theorem dX10_notes_4 : decode cX10_notes 4 = .ok (.bipush 53, 2) := by decide +kernel
theorem dX10_notes_6 : decode cX10_notes 6 = .ok (.iaload, 1) := by decide +kernel
theorem dX10_notes_7 : decode cX10_notes 7 = .ok (.bipush 10, 2) := by decide +kernel
theorem dX10_notes_9 : decode cX10_notes 9 = .ok (.if_icmp .ne 46, 3) := by decide +kernel
theorem dX10_notes_55 : decode cX10_notes 55 = .ok (.iconst 0, 1) := by decide +kernel
theorem dX10_notes_56 : decode cX10_notes 56 = .ok (.istore_n 1, 1) := by decide +kernel
theorem dX10_notes_57 : decode cX10_notes 57 = .ok (.iload_n 1, 1) := by decide +kernel
theorem dX10_notes_58 : decode cX10_notes 58 = .ok (.bipush 7, 2) := by decide +kernel
theorem dX10_notes_60 : decode cX10_notes 60 = .ok (.if_icmp .ge 35, 3) := by decide +kernel
theorem dX10_notes_63 : decode cX10_notes 63 = .ok (.aload_n 0, 1) := by decide +kernel
theorem dX10_notes_64 : decode cX10_notes 64 = .ok (.getfield 13, 3) := by decide +kernel
theorem dX10_notes_67 : decode cX10_notes 67 = .ok (.bipush 54, 2) := by decide +kernel
theorem dX10_notes_69 : decode cX10_notes 69 = .ok (.bipush 7, 2) := by decide +kernel
theorem dX10_notes_71 : decode cX10_notes 71 = .ok (.aload_n 0, 1) := by decide +kernel
theorem dX10_notes_72 : decode cX10_notes 72 = .ok (.getfield 13, 3) := by decide +kernel
theorem dX10_notes_75 : decode cX10_notes 75 = .ok (.bipush 53, 2) := by decide +kernel
theorem dX10_notes_77 : decode cX10_notes 77 = .ok (.iaload, 1) := by decide +kernel
theorem dX10_notes_78 : decode cX10_notes 78 = .ok (.imul, 1) := by decide +kernel
theorem dX10_notes_79 : decode cX10_notes 79 = .ok (.iadd, 1) := by decide +kernel
theorem dX10_notes_80 : decode cX10_notes 80 = .ok (.iload_n 1, 1) := by decide +kernel
theorem dX10_notes_81 : decode cX10_notes 81 = .ok (.iadd, 1) := by decide +kernel
theorem dX10_notes_82 : decode cX10_notes 82 = .ok (.aload_n 0, 1) := by decide +kernel
theorem dX10_notes_83 : decode cX10_notes 83 = .ok (.getfield 36, 3) := by decide +kernel
theorem dX10_notes_86 : decode cX10_notes 86 = .ok (.iload_n 1, 1) := by decide +kernel
theorem dX10_notes_87 : decode cX10_notes 87 = .ok (.iaload, 1) := by decide +kernel
theorem dX10_notes_88 : decode cX10_notes 88 = .ok (.iastore, 1) := by decide +kernel
theorem dX10_notes_89 : decode cX10_notes 89 = .ok (.iinc 1 1, 3) := by decide +kernel
theorem dX10_notes_92 : decode cX10_notes 92 = .ok (.goto (-35), 3) := by decide +kernel
theorem dX10_notes_95 : decode cX10_notes 95 = .ok (.aload_n 0, 1) := by decide +kernel
theorem dX10_notes_96 : decode cX10_notes 96 = .ok (.getfield 13, 3) := by decide +kernel
theorem dX10_notes_99 : decode cX10_notes 99 = .ok (.bipush 53, 2) := by decide +kernel
theorem dX10_notes_101 : decode cX10_notes 101 = .ok (.dup2, 1) := by decide +kernel
theorem dX10_notes_102 : decode cX10_notes 102 = .ok (.iaload, 1) := by decide +kernel
theorem dX10_notes_103 : decode cX10_notes 103 = .ok (.iconst 1, 1) := by decide +kernel
theorem dX10_notes_104 : decode cX10_notes 104 = .ok (.iadd, 1) := by decide +kernel
theorem dX10_notes_105 : decode cX10_notes 105 = .ok (.iastore, 1) := by decide +kernel
theorem dX10_notes_106 : decode cX10_notes 106 = .ok (.return_, 1) := by decide +kernel
theorem dX10_night_0 : decode cX10_night 0 = .ok (.aload_n 0, 1) := by decide +kernel
theorem dX10_night_1 : decode cX10_night 1 = .ok (.iconst 0, 1) := by decide +kernel
theorem dX10_night_2 : decode cX10_night 2 = .ok (.putfield 1, 3) := by decide +kernel
theorem dX10_night_5 : decode cX10_night 5 = .ok (.aload_n 0, 1) := by decide +kernel
theorem dX10_night_6 : decode cX10_night 6 = .ok (.iload_n 1, 1) := by decide +kernel
theorem dX10_night_7 : decode cX10_night 7 = .ok (.i2l, 1) := by decide +kernel
theorem dX10_night_8 : decode cX10_night 8 = .ok (.invokevirtual 266, 3) := by decide +kernel
theorem dX10_night_11 : decode cX10_night 11 = .ok (.ifCond .ne 6, 3) := by decide +kernel
theorem dX10_night_17 : decode cX10_night 17 = .ok (.aload_n 0, 1) := by decide +kernel
theorem dX10_night_18 : decode cX10_night 18 = .ok (.invokevirtual 278, 3) := by decide +kernel
theorem dX10_night_21 : decode cX10_night 21 = .ok (.aload_n 0, 1) := by decide +kernel
theorem dX10_night_22 : decode cX10_night 22 = .ok (.iload_n 1, 1) := by decide +kernel
theorem dX10_night_23 : decode cX10_night 23 = .ok (.invokevirtual 281, 3) := by decide +kernel
theorem dX10_night_26 : decode cX10_night 26 = .ok (.aload_n 0, 1) := by decide +kernel
theorem dX10_night_27 : decode cX10_night 27 = .ok (.invokevirtual 284, 3) := by decide +kernel
theorem dX10_night_30 : decode cX10_night 30 = .ok (.aload_n 0, 1) := by decide +kernel
theorem dX10_night_31 : decode cX10_night 31 = .ok (.getfield 13, 3) := by decide +kernel
theorem dX10_night_34 : decode cX10_night 34 = .ok (.bipush 50, 2) := by decide +kernel
theorem dX10_night_36 : decode cX10_night 36 = .ok (.iaload, 1) := by decide +kernel
theorem dX10_night_37 : decode cX10_night 37 = .ok (.ireturn, 1) := by decide +kernel
theorem dX10_night_14 : decode cX10_night 14 = .ok (.bipush (-11), 2) := by decide +kernel
theorem dX10_night_16 : decode cX10_night 16 = .ok (.ireturn, 1) := by decide +kernel
theorem dX10_sumIn_0 : decode cX10_sumIn 0 = .ok (.iconst 0, 1) := by decide +kernel
theorem dX10_sumIn_1 : decode cX10_sumIn 1 = .ok (.istore_n 2, 1) := by decide +kernel
theorem dX10_sumIn_2 : decode cX10_sumIn 2 = .ok (.iconst 0, 1) := by decide +kernel
theorem dX10_sumIn_3 : decode cX10_sumIn 3 = .ok (.istore_n 3, 1) := by decide +kernel
theorem dX10_sumIn_4 : decode cX10_sumIn 4 = .ok (.iload_n 3, 1) := by decide +kernel
theorem dX10_sumIn_5 : decode cX10_sumIn 5 = .ok (.aload_n 0, 1) := by decide +kernel
theorem dX10_sumIn_6 : decode cX10_sumIn 6 = .ok (.getfield 13, 3) := by decide +kernel
theorem dX10_sumIn_9 : decode cX10_sumIn 9 = .ok (.iconst 1, 1) := by decide +kernel
theorem dX10_sumIn_10 : decode cX10_sumIn 10 = .ok (.iaload, 1) := by decide +kernel
theorem dX10_sumIn_11 : decode cX10_sumIn 11 = .ok (.if_icmp .ge 17, 3) := by decide +kernel
theorem dX10_sumIn_28 : decode cX10_sumIn 28 = .ok (.iload_n 2, 1) := by decide +kernel
theorem dX10_sumIn_29 : decode cX10_sumIn 29 = .ok (.ireturn, 1) := by decide +kernel
theorem dX10_count_0 : decode cX10_count 0 = .ok (.aload_n 0, 1) := by decide +kernel
theorem dX10_count_1 : decode cX10_count 1 = .ok (.iconst 0, 1) := by decide +kernel
theorem dX10_count_2 : decode cX10_count 2 = .ok (.putfield 1, 3) := by decide +kernel
theorem dX10_count_5 : decode cX10_count 5 = .ok (.iload_n 1, 1) := by decide +kernel
theorem dX10_count_6 : decode cX10_count 6 = .ok (.tableswitch 128 0 9 #[54, 61, 68, 75, 83, 92, 100, 108, 116, 121], 54) := by decide +kernel
theorem dX10_count_60 : decode cX10_count 60 = .ok (.aload_n 0, 1) := by decide +kernel
theorem dX10_count_61 : decode cX10_count 61 = .ok (.getfield 13, 3) := by decide +kernel
theorem dX10_count_64 : decode cX10_count 64 = .ok (.iconst 1, 1) := by decide +kernel
theorem dX10_count_65 : decode cX10_count 65 = .ok (.iaload, 1) := by decide +kernel
theorem dX10_count_66 : decode cX10_count 66 = .ok (.ireturn, 1) := by decide +kernel
theorem dX10_count_67 : decode cX10_count 67 = .ok (.aload_n 0, 1) := by decide +kernel
theorem dX10_count_68 : decode cX10_count 68 = .ok (.getfield 13, 3) := by decide +kernel
theorem dX10_count_71 : decode cX10_count 71 = .ok (.iconst 2, 1) := by decide +kernel
theorem dX10_count_72 : decode cX10_count 72 = .ok (.iaload, 1) := by decide +kernel
theorem dX10_count_73 : decode cX10_count 73 = .ok (.ireturn, 1) := by decide +kernel
theorem dX10_count_74 : decode cX10_count 74 = .ok (.aload_n 0, 1) := by decide +kernel
theorem dX10_count_75 : decode cX10_count 75 = .ok (.getfield 13, 3) := by decide +kernel
theorem dX10_count_78 : decode cX10_count 78 = .ok (.iconst 3, 1) := by decide +kernel
theorem dX10_count_79 : decode cX10_count 79 = .ok (.iaload, 1) := by decide +kernel
theorem dX10_count_80 : decode cX10_count 80 = .ok (.ireturn, 1) := by decide +kernel
theorem dX10_count_81 : decode cX10_count 81 = .ok (.aload_n 0, 1) := by decide +kernel
theorem dX10_count_82 : decode cX10_count 82 = .ok (.getfield 13, 3) := by decide +kernel
theorem dX10_count_85 : decode cX10_count 85 = .ok (.bipush 51, 2) := by decide +kernel
theorem dX10_count_87 : decode cX10_count 87 = .ok (.iaload, 1) := by decide +kernel
theorem dX10_count_88 : decode cX10_count 88 = .ok (.ireturn, 1) := by decide +kernel
theorem dX10_count_89 : decode cX10_count 89 = .ok (.aload_n 0, 1) := by decide +kernel
theorem dX10_count_90 : decode cX10_count 90 = .ok (.aload_n 0, 1) := by decide +kernel
theorem dX10_count_91 : decode cX10_count 91 = .ok (.invokevirtual 269, 3) := by decide +kernel
theorem dX10_count_94 : decode cX10_count 94 = .ok (.invokevirtual 326, 3) := by decide +kernel
theorem dX10_count_97 : decode cX10_count 97 = .ok (.ireturn, 1) := by decide +kernel
theorem dX10_count_98 : decode cX10_count 98 = .ok (.aload_n 0, 1) := by decide +kernel
theorem dX10_count_99 : decode cX10_count 99 = .ok (.getfield 13, 3) := by decide +kernel
theorem dX10_count_102 : decode cX10_count 102 = .ok (.bipush 50, 2) := by decide +kernel
theorem dX10_count_104 : decode cX10_count 104 = .ok (.iaload, 1) := by decide +kernel
theorem dX10_count_105 : decode cX10_count 105 = .ok (.ireturn, 1) := by decide +kernel
theorem dX10_count_106 : decode cX10_count 106 = .ok (.aload_n 0, 1) := by decide +kernel
theorem dX10_count_107 : decode cX10_count 107 = .ok (.getfield 13, 3) := by decide +kernel
theorem dX10_count_110 : decode cX10_count 110 = .ok (.bipush 52, 2) := by decide +kernel
theorem dX10_count_112 : decode cX10_count 112 = .ok (.iaload, 1) := by decide +kernel
theorem dX10_count_113 : decode cX10_count 113 = .ok (.ireturn, 1) := by decide +kernel
theorem dX10_count_114 : decode cX10_count 114 = .ok (.aload_n 0, 1) := by decide +kernel
theorem dX10_count_115 : decode cX10_count 115 = .ok (.getfield 13, 3) := by decide +kernel
theorem dX10_count_118 : decode cX10_count 118 = .ok (.bipush 53, 2) := by decide +kernel
theorem dX10_count_120 : decode cX10_count 120 = .ok (.iaload, 1) := by decide +kernel
theorem dX10_count_121 : decode cX10_count 121 = .ok (.ireturn, 1) := by decide +kernel
theorem dX10_count_122 : decode cX10_count 122 = .ok (.aload_n 0, 1) := by decide +kernel
theorem dX10_count_123 : decode cX10_count 123 = .ok (.getfield 97, 3) := by decide +kernel
theorem dX10_count_126 : decode cX10_count 126 = .ok (.ireturn, 1) := by decide +kernel
theorem dX10_count_127 : decode cX10_count 127 = .ok (.aload_n 0, 1) := by decide +kernel
theorem dX10_count_128 : decode cX10_count 128 = .ok (.getfield 13, 3) := by decide +kernel
theorem dX10_count_131 : decode cX10_count 131 = .ok (.iconst 0, 1) := by decide +kernel
theorem dX10_count_132 : decode cX10_count 132 = .ok (.iaload, 1) := by decide +kernel
theorem dX10_count_133 : decode cX10_count 133 = .ok (.ireturn, 1) := by decide +kernel
theorem dX10_count_134 : decode cX10_count 134 = .ok (.iconst (-1), 1) := by decide +kernel
theorem dX10_count_135 : decode cX10_count 135 = .ok (.ireturn, 1) := by decide +kernel
theorem dX10_lit_0 : decode cX10_lit 0 = .ok (.aload_n 0, 1) := by decide +kernel
theorem dX10_lit_1 : decode cX10_lit 1 = .ok (.iconst 0, 1) := by decide +kernel
theorem dX10_lit_2 : decode cX10_lit 2 = .ok (.putfield 1, 3) := by decide +kernel
theorem dX10_lit_5 : decode cX10_lit 5 = .ok (.aload_n 0, 1) := by decide +kernel
theorem dX10_lit_6 : decode cX10_lit 6 = .ok (.iload_n 1, 1) := by decide +kernel
theorem dX10_lit_7 : decode cX10_lit 7 = .ok (.i2l, 1) := by decide +kernel
theorem dX10_lit_8 : decode cX10_lit 8 = .ok (.invokevirtual 262, 3) := by decide +kernel
theorem dX10_lit_11 : decode cX10_lit 11 = .ok (.ifCond .eq 11, 3) := by decide +kernel
theorem dX10_lit_22 : decode cX10_lit 22 = .ok (.bipush (-2), 2) := by decide +kernel
theorem dX10_lit_24 : decode cX10_lit 24 = .ok (.ireturn, 1) := by decide +kernel
theorem dX10_brightest_0 : decode cX10_brightest 0 = .ok (.aload_n 0, 1) := by decide +kernel
theorem dX10_brightest_1 : decode cX10_brightest 1 = .ok (.iconst 0, 1) := by decide +kernel
theorem dX10_brightest_2 : decode cX10_brightest 2 = .ok (.putfield 1, 3) := by decide +kernel
theorem dX10_brightest_5 : decode cX10_brightest 5 = .ok (.iconst (-1), 1) := by decide +kernel
theorem dX10_brightest_6 : decode cX10_brightest 6 = .ok (.istore_n 1, 1) := by decide +kernel
theorem dX10_brightest_7 : decode cX10_brightest 7 = .ok (.iconst (-1), 1) := by decide +kernel
theorem dX10_brightest_8 : decode cX10_brightest 8 = .ok (.istore_n 2, 1) := by decide +kernel
theorem dX10_brightest_9 : decode cX10_brightest 9 = .ok (.iconst 0, 1) := by decide +kernel
theorem dX10_brightest_10 : decode cX10_brightest 10 = .ok (.istore_n 3, 1) := by decide +kernel
theorem dX10_brightest_11 : decode cX10_brightest 11 = .ok (.iload_n 3, 1) := by decide +kernel
theorem dX10_brightest_12 : decode cX10_brightest 12 = .ok (.aload_n 0, 1) := by decide +kernel
theorem dX10_brightest_13 : decode cX10_brightest 13 = .ok (.getfield 13, 3) := by decide +kernel
theorem dX10_brightest_16 : decode cX10_brightest 16 = .ok (.iconst 1, 1) := by decide +kernel
theorem dX10_brightest_17 : decode cX10_brightest 17 = .ok (.iaload, 1) := by decide +kernel
theorem dX10_brightest_18 : decode cX10_brightest 18 = .ok (.if_icmp .ge 35, 3) := by decide +kernel
theorem dX10_brightest_53 : decode cX10_brightest 53 = .ok (.iload_n 1, 1) := by decide +kernel
theorem dX10_brightest_54 : decode cX10_brightest 54 = .ok (.ireturn, 1) := by decide +kernel
set_option maxHeartbeats 4000000 in
set_option maxRecDepth 100000 in
theorem c_X10_within_0 (l : Launch) (V : GV) (j0 : Int64) (j1 : Int64) (j2 : Int64) : Ct l V yX10_within (.code yX10_within cX10_within 6 (some .boolean)) 1 [.long j0, .long j1, .long j2] [] 0 0 (QI V (fun (r : Int32) (w : va_W) => (j0 < j1 ∧ r = 0 ∧ w = []) ∨ ((¬ j0 < j1) ∧ j2 < j0 ∧ r = 0 ∧ w = []) ∨ ((¬ j0 < j1) ∧ (¬ j2 < j0) ∧ r = 1 ∧ w = []))) := by
  refine Ct.of (by decide) (Nat.le_of_ble_eq_true rfl) (fun p e s m below meth c A ls hx hb hr hml hown hlk hnm hg hP hK hD hE hA hS hl => ?_)
  have hl : lv_has ls 6 [(0, .long j0), (2, .long j1), (4, .long j2)] := hl
  refine lv_lload_n hx hb dX10_within_0 rfl (lv_at hl 0 rfl) ?_
  refine lv_lload_n hx hb dX10_within_1 rfl (lv_at hl 1 rfl) ?_
  refine W.lcmp hx hb dX10_within_2 ?_
  refine lv_if_lt (tgt := 17) hx hb dX10_within_3 (by decide) (fun c_1 => ?_) (fun c_1 => ?_)
  · replace c_1 : j0 < j1 := (lg_cmp_lt _ _).mp c_1
    refine lv_iconst (v := 0) hx hb dX10_within_17 (by decide) ?_
    exact fiZ rfl hx hb hr hlk hK hP hD hS dX10_within_18 (Nat.le_of_ble_eq_true rfl) (Nat.le_of_ble_eq_true rfl) (Or.inl ⟨c_1, rfl, rfl⟩)
  · replace c_1 : ¬ j0 < j1 := fun z => c_1 ((lg_cmp_lt _ _).mpr z)
    refine lv_lload_n hx hb dX10_within_6 rfl (lv_at hl 0 rfl) ?_
    refine lv_lload hx hb dX10_within_7 (lv_at hl 2 rfl) ?_
    refine W.lcmp hx hb dX10_within_9 ?_
    refine lv_if_gt (tgt := 17) hx hb dX10_within_10 (by decide) (fun c_2 => ?_) (fun c_2 => ?_)
    · replace c_2 : j2 < j0 := (lg_cmp_gt _ _).mp c_2
      refine lv_iconst (v := 0) hx hb dX10_within_17 (by decide) ?_
      exact fiZ rfl hx hb hr hlk hK hP hD hS dX10_within_18 (Nat.le_of_ble_eq_true rfl) (Nat.le_of_ble_eq_true rfl) (Or.inr (Or.inl ⟨c_1, c_2, rfl, rfl⟩))
    · replace c_2 : ¬ j2 < j0 := fun z => c_2 ((lg_cmp_gt _ _).mpr z)
      refine lv_iconst (v := 1) hx hb dX10_within_13 (by decide) ?_
      refine lv_goto (tgt := 18) hx hb dX10_within_14 (by decide) ?_
      exact fiZ rfl hx hb hr hlk hK hP hD hS dX10_within_18 (Nat.le_of_ble_eq_true rfl) (Nat.le_of_ble_eq_true rfl) (Or.inr (Or.inr (⟨c_1, c_2, rfl, rfl⟩)))
set_option maxHeartbeats 4000000 in
set_option maxRecDepth 100000 in
theorem c_X10_isHill_0 (l : Launch) (V : GV) (z : Nat → Nat) (j0 : Int64) : Ct l V yX10_isHill (.code yX10_isHill cX10_isHill 3 (some .boolean)) 2 [.ref (z 0), .long j0] [(z 0, .inr (10, mo z 0 0 0 0 0 0 0 0 0 0 (-1) 0 0 0 0 0)), (z 1, aI V 3075 (fun _ => 0))] 0 0 (QI V (fun (r : Int32) (w : va_W) => (r = 0 ∧ w = [(z 0, .inr (10, mo z 0 0 0 0 0 0 0 0 0 0 (-1) 0 0 0 0 0)), (z 1, aI V 3075 (fun _ => 0))]))) := by
  refine Ct.of (by decide) (Nat.le_of_ble_eq_true rfl) (fun p e s m below meth c A ls hx hb hr hml hown hlk hnm hg hP hK hD hE hA hS hl => ?_)
  have hl : lv_has ls 3 [(0, .ref (z 0)), (1, .long j0)] := hl
  refine lv_lload_n hx hb dX10_isHill_0 rfl (lv_at hl 1 rfl) ?_
  refine lv_lconst (v := 0) hx hb dX10_isHill_1 (by decide) ?_
  refine lv_aload_n hx hb dX10_isHill_2 rfl (lv_at hl 0 rfl) ?_
  refine va_get (ci := 10) (v := .ref (z 1)) (C := RX10) (T := TX10) (N := 40) hx hb hg inX10 hown hK hP 0 rfl rfl 1 (by decide) (hg _ q_5_225) (fun _ h9 => h9) rfl dX10_isHill_3 ?_
  refine lv_iconst (v := 1) hx hb dX10_isHill_6 (by decide) ?_
  refine va_iald hx hb hK hP 1 0 rfl rfl (vin (by decide +kernel)) dX10_isHill_7 ?_
  refine tpi (y := 0) (rfl) ?_
  refine lv_iconst (v := 1) hx hb dX10_isHill_8 (by decide) ?_
  refine lv_isub hx hb dX10_isHill_9 ?_
  refine tpi (y := (-1)) (by decide +kernel) ?_
  refine lv_i2l (v := (-1)) hx hb dX10_isHill_10 (by decide +kernel) ?_
  refine jnI (wr := [(z 0, .inr (10, mo z 0 0 0 0 0 0 0 0 0 0 (-1) 0 0 0 0 0)), (z 1, aI V 3075 (fun _ => 0))]) (rnS (rest := []) ⟨hx, hb, hml, hown, hg⟩ (c_X10_within_0 l V j0 0 ((-1))) mt_X10_within q_6_114 ⟨Nat.le_of_ble_eq_true rfl, Nat.le_of_ble_eq_true rfl⟩ hK hP hD hS hA hE [] rfl rfl rfl hl.1 rfl (Nat.le_of_ble_eq_true rfl) dX10_isHill_11 ⟨Nat.le_of_ble_eq_true rfl, Nat.le_of_ble_eq_true rfl⟩) hP hD hS hA [] [0, 1] rfl rfl rfl (by decide) (fun r_1 w H locs hw hP hD hS => ?_)
  rcases hw with ⟨c_2, rfl, rfl⟩ | ⟨c_3, c_4, rfl, rfl⟩ | ⟨c_5, c_6, rfl, rfl⟩
  · have hP : va_P V.1 vwCl [(z 0, .inr (10, mo z 0 0 0 0 0 0 0 0 0 0 (-1) 0 0 0 0 0)), (z 1, aI V 3075 (fun _ => 0))] H := hP
    have hD : va_D A [(z 0, .inr (10, mo z 0 0 0 0 0 0 0 0 0 0 (-1) 0 0 0 0 0)), (z 1, aI V 3075 (fun _ => 0))] := hD
    exact fiZ rfl hx hb hr hlk hK hP hD hS dX10_isHill_14 (Nat.le_of_ble_eq_true rfl) (Nat.le_of_ble_eq_true rfl) (⟨rfl, rfl⟩)
  · have hP : va_P V.1 vwCl [(z 0, .inr (10, mo z 0 0 0 0 0 0 0 0 0 0 (-1) 0 0 0 0 0)), (z 1, aI V 3075 (fun _ => 0))] H := hP
    have hD : va_D A [(z 0, .inr (10, mo z 0 0 0 0 0 0 0 0 0 0 (-1) 0 0 0 0 0)), (z 1, aI V 3075 (fun _ => 0))] := hD
    exact fiZ rfl hx hb hr hlk hK hP hD hS dX10_isHill_14 (Nat.le_of_ble_eq_true rfl) (Nat.le_of_ble_eq_true rfl) (⟨rfl, rfl⟩)
  · exact False.elim (by simp only [tI_lt, tI_le, tI_eq, tL_lt, tL_le, tL_eq, tWx, (by decide : ((-1) : Int64).toInt = -1), (by decide : (0 : Int64).toInt = 0)] at c_5 c_6; omega)
set_option maxHeartbeats 4000000 in
set_option maxRecDepth 100000 in
theorem c_X10_hill_0 (l : Launch) (V : GV) (z : Nat → Nat) (p0 : Int32) (p1 : Int32) : Ct l V yX10_hill (.code yX10_hill cX10_hill 3 (some .int)) 3 [.ref (z 0), .int p0, .int p1] [(z 0, .inr (10, mo z 0 0 0 0 0 0 0 0 0 0 (-1) 0 0 0 0 0)), (z 1, aI V 3075 (fun _ => 0))] 0 0 (QI V (fun (r : Int32) (w : va_W) => (r = (-2) ∧ w = [(z 0, .inr (10, mo z 0 0 0 0 0 0 0 0 0 0 (-1) 0 0 0 0 0)), (z 1, aI V 3075 (fun _ => 0))]))) := by
  refine Ct.of (by decide) (Nat.le_of_ble_eq_true rfl) (fun p e s m below meth c A ls hx hb hr hml hown hlk hnm hg hP hK hD hE hA hS hl => ?_)
  have hl : lv_has ls 3 [(0, .ref (z 0)), (1, .int p0), (2, .int p1)] := hl
  refine lv_aload_n hx hb dX10_hill_0 rfl (lv_at hl 0 rfl) ?_
  refine lv_iconst (v := 0) hx hb dX10_hill_1 (by decide) ?_
  refine va_put (ci := 10) (v := .int 0) (ty := .int) (C := RX10) (T := TX10) (N := 40) hx hb hg inX10 tyX10 tyX10_ok nmX10 hown hK hP hD hS 0 rfl rfl 0 (by decide) (hg _ q_5_224) (fun _ h9 => h9) rfl (by decide +kernel) rfl rfl (Nat.le_of_ble_eq_true rfl) dX10_hill_2 (fun H locs hP hD hS => ?_)
  have hP : va_P V.1 vwCl [(z 0, .inr (10, mo z 0 0 0 0 0 0 0 0 0 0 (-1) 0 0 0 0 0)), (z 1, aI V 3075 (fun _ => 0))] H := hP
  have hD : va_D A [(z 0, .inr (10, mo z 0 0 0 0 0 0 0 0 0 0 (-1) 0 0 0 0 0)), (z 1, aI V 3075 (fun _ => 0))] := hD
  refine lv_aload_n hx hb dX10_hill_5 rfl (lv_at hl 0 rfl) ?_
  refine lv_iload_n hx hb dX10_hill_6 rfl (lv_at hl 1 rfl) ?_
  refine lv_i2l (v := p0.toInt64) hx hb dX10_hill_7 rfl ?_
  refine jnI (wr := []) (rnV (rest := []) ⟨hx, hb, hml, hown, hg⟩ (c_X10_isHill_0 l V z p0.toInt64) mt_X10_isHill q_6_235 ⟨Nat.le_of_ble_eq_true rfl, Nat.le_of_ble_eq_true rfl⟩ hK hP hD hS hA hE [0, 1] rfl rfl 0 rfl rfl rfl rfl hl.1 rfl (Nat.le_of_ble_eq_true rfl) dX10_hill_8 ⟨Nat.le_of_ble_eq_true rfl, Nat.le_of_ble_eq_true rfl⟩) hP hD hS hA [0, 1] [] rfl rfl rfl (by decide) (fun r_1 w H locs hw hP hD hS => ?_)
  obtain ⟨rfl, rfl⟩ := hw
  have hP : va_P V.1 vwCl [(z 0, .inr (10, mo z 0 0 0 0 0 0 0 0 0 0 (-1) 0 0 0 0 0)), (z 1, aI V 3075 (fun _ => 0))] H := hP
  have hD : va_D A [(z 0, .inr (10, mo z 0 0 0 0 0 0 0 0 0 0 (-1) 0 0 0 0 0)), (z 1, aI V 3075 (fun _ => 0))] := hD
  refine lv_if_ne (tgt := 17) hx hb dX10_hill_11 (by decide) (fun c_2 => absurd c_2 (by decide)) (fun _ => ?_)
  refine lv_bipush (v := (-2)) hx hb dX10_hill_14 (by decide) ?_
  exact fiI hx hb hr hlk hK hP hD hS dX10_hill_16 (Nat.le_of_ble_eq_true rfl) (Nat.le_of_ble_eq_true rfl) (⟨rfl, rfl⟩)
set_option maxHeartbeats 4000000 in
set_option maxRecDepth 100000 in
theorem c_X10_village_0 (l : Launch) (V : GV) (z : Nat → Nat) (p0 : Int32) : Ct l V yX10_village (.code yX10_village cX10_village 2 (some .int)) 2 [.ref (z 0), .int p0] [(z 0, .inr (10, mo z 0 0 0 0 0 0 0 0 0 0 (-1) 0 0 0 0 0)), (z 1, aI V 3075 (fun _ => 0))] 0 0 (QI V (fun (r : Int32) (w : va_W) => (r = (-2) ∧ w = [(z 0, .inr (10, mo z 0 0 0 0 0 0 0 0 0 0 (-1) 0 0 0 0 0)), (z 1, aI V 3075 (fun _ => 0))]))) := by
  refine Ct.of (by decide) (Nat.le_of_ble_eq_true rfl) (fun p e s m below meth c A ls hx hb hr hml hown hlk hnm hg hP hK hD hE hA hS hl => ?_)
  have hl : lv_has ls 2 [(0, .ref (z 0)), (1, .int p0)] := hl
  refine lv_aload_n hx hb dX10_village_0 rfl (lv_at hl 0 rfl) ?_
  refine lv_iconst (v := 0) hx hb dX10_village_1 (by decide) ?_
  refine va_put (ci := 10) (v := .int 0) (ty := .int) (C := RX10) (T := TX10) (N := 40) hx hb hg inX10 tyX10 tyX10_ok nmX10 hown hK hP hD hS 0 rfl rfl 0 (by decide) (hg _ q_5_224) (fun _ h9 => h9) rfl (by decide +kernel) rfl rfl (Nat.le_of_ble_eq_true rfl) dX10_village_2 (fun H locs hP hD hS => ?_)
  have hP : va_P V.1 vwCl [(z 0, .inr (10, mo z 0 0 0 0 0 0 0 0 0 0 (-1) 0 0 0 0 0)), (z 1, aI V 3075 (fun _ => 0))] H := hP
  have hD : va_D A [(z 0, .inr (10, mo z 0 0 0 0 0 0 0 0 0 0 (-1) 0 0 0 0 0)), (z 1, aI V 3075 (fun _ => 0))] := hD
  refine lv_iload_n hx hb dX10_village_5 rfl (lv_at hl 1 rfl) ?_
  refine lv_i2l (v := p0.toInt64) hx hb dX10_village_6 rfl ?_
  refine lv_lconst (v := 0) hx hb dX10_village_7 (by decide) ?_
  refine lv_aload_n hx hb dX10_village_8 rfl (lv_at hl 0 rfl) ?_
  refine va_get (ci := 10) (v := .ref (z 1)) (C := RX10) (T := TX10) (N := 40) hx hb hg inX10 hown hK hP 0 rfl rfl 1 (by decide) (hg _ q_5_225) (fun _ h9 => h9) rfl dX10_village_9 ?_
  refine lv_iconst (v := 2) hx hb dX10_village_12 (by decide) ?_
  refine va_iald hx hb hK hP 1 0 rfl rfl (vin (by decide +kernel)) dX10_village_13 ?_
  refine tpi (y := 0) (rfl) ?_
  refine lv_iconst (v := 1) hx hb dX10_village_14 (by decide) ?_
  refine lv_isub hx hb dX10_village_15 ?_
  refine tpi (y := (-1)) (by decide +kernel) ?_
  refine lv_i2l (v := (-1)) hx hb dX10_village_16 (by decide +kernel) ?_
  refine jnI (wr := [(z 0, .inr (10, mo z 0 0 0 0 0 0 0 0 0 0 (-1) 0 0 0 0 0)), (z 1, aI V 3075 (fun _ => 0))]) (rnS (rest := []) ⟨hx, hb, hml, hown, hg⟩ (c_X10_within_0 l V p0.toInt64 0 ((-1))) mt_X10_within q_6_114 ⟨Nat.le_of_ble_eq_true rfl, Nat.le_of_ble_eq_true rfl⟩ hK hP hD hS hA hE [] rfl rfl rfl hl.1 rfl (Nat.le_of_ble_eq_true rfl) dX10_village_17 ⟨Nat.le_of_ble_eq_true rfl, Nat.le_of_ble_eq_true rfl⟩) hP hD hS hA [] [0, 1] rfl rfl rfl (by decide) (fun r_1 w H locs hw hP hD hS => ?_)
  rcases hw with ⟨c_2, rfl, rfl⟩ | ⟨c_3, c_4, rfl, rfl⟩ | ⟨c_5, c_6, rfl, rfl⟩
  · have hP : va_P V.1 vwCl [(z 0, .inr (10, mo z 0 0 0 0 0 0 0 0 0 0 (-1) 0 0 0 0 0)), (z 1, aI V 3075 (fun _ => 0))] H := hP
    have hD : va_D A [(z 0, .inr (10, mo z 0 0 0 0 0 0 0 0 0 0 (-1) 0 0 0 0 0)), (z 1, aI V 3075 (fun _ => 0))] := hD
    refine lv_if_eq (tgt := 35) hx hb dX10_village_20 (by decide) (fun _ => ?_) (fun c_7 => absurd c_7 (by decide))
    refine lv_bipush (v := (-2)) hx hb dX10_village_35 (by decide) ?_
    exact fiI hx hb hr hlk hK hP hD hS dX10_village_37 (Nat.le_of_ble_eq_true rfl) (Nat.le_of_ble_eq_true rfl) (⟨rfl, rfl⟩)
  · have hP : va_P V.1 vwCl [(z 0, .inr (10, mo z 0 0 0 0 0 0 0 0 0 0 (-1) 0 0 0 0 0)), (z 1, aI V 3075 (fun _ => 0))] H := hP
    have hD : va_D A [(z 0, .inr (10, mo z 0 0 0 0 0 0 0 0 0 0 (-1) 0 0 0 0 0)), (z 1, aI V 3075 (fun _ => 0))] := hD
    refine lv_if_eq (tgt := 35) hx hb dX10_village_20 (by decide) (fun _ => ?_) (fun c_8 => absurd c_8 (by decide))
    refine lv_bipush (v := (-2)) hx hb dX10_village_35 (by decide) ?_
    exact fiI hx hb hr hlk hK hP hD hS dX10_village_37 (Nat.le_of_ble_eq_true rfl) (Nat.le_of_ble_eq_true rfl) (⟨rfl, rfl⟩)
  · exact False.elim (by simp only [tI_lt, tI_le, tI_eq, tL_lt, tL_le, tL_eq, tWx, (by decide : ((-1) : Int64).toInt = -1), (by decide : (0 : Int64).toInt = 0)] at c_5 c_6; omega)
set_option maxHeartbeats 4000000 in
set_option maxRecDepth 100000 in
theorem c_X10_takes_0 (l : Launch) (V : GV) (z : Nat → Nat) (p0 : Int32) (p1 : Int32) : Ct l V yX10_takes (.code yX10_takes cX10_takes 3 (some .int)) 3 [.ref (z 0), .int p0, .int p1] [(z 0, .inr (10, mo z 0 0 0 0 0 0 0 0 0 0 (-1) 0 0 0 0 0)), (z 1, aI V 3075 (fun _ => 0))] 0 0 (QI V (fun (r : Int32) (w : va_W) => (r = (-2) ∧ w = [(z 0, .inr (10, mo z 0 0 0 0 0 0 0 0 0 0 (-1) 0 0 0 0 0)), (z 1, aI V 3075 (fun _ => 0))]))) := by
  refine Ct.of (by decide) (Nat.le_of_ble_eq_true rfl) (fun p e s m below meth c A ls hx hb hr hml hown hlk hnm hg hP hK hD hE hA hS hl => ?_)
  have hl : lv_has ls 3 [(0, .ref (z 0)), (1, .int p0), (2, .int p1)] := hl
  refine lv_aload_n hx hb dX10_takes_0 rfl (lv_at hl 0 rfl) ?_
  refine lv_iconst (v := 0) hx hb dX10_takes_1 (by decide) ?_
  refine va_put (ci := 10) (v := .int 0) (ty := .int) (C := RX10) (T := TX10) (N := 40) hx hb hg inX10 tyX10 tyX10_ok nmX10 hown hK hP hD hS 0 rfl rfl 0 (by decide) (hg _ q_5_224) (fun _ h9 => h9) rfl (by decide +kernel) rfl rfl (Nat.le_of_ble_eq_true rfl) dX10_takes_2 (fun H locs hP hD hS => ?_)
  have hP : va_P V.1 vwCl [(z 0, .inr (10, mo z 0 0 0 0 0 0 0 0 0 0 (-1) 0 0 0 0 0)), (z 1, aI V 3075 (fun _ => 0))] H := hP
  have hD : va_D A [(z 0, .inr (10, mo z 0 0 0 0 0 0 0 0 0 0 (-1) 0 0 0 0 0)), (z 1, aI V 3075 (fun _ => 0))] := hD
  refine lv_aload_n hx hb dX10_takes_5 rfl (lv_at hl 0 rfl) ?_
  refine lv_iload_n hx hb dX10_takes_6 rfl (lv_at hl 2 rfl) ?_
  refine lv_i2l (v := p1.toInt64) hx hb dX10_takes_7 rfl ?_
  refine jnI (wr := []) (rnV (rest := []) ⟨hx, hb, hml, hown, hg⟩ (c_X10_isHill_0 l V z p1.toInt64) mt_X10_isHill q_6_235 ⟨Nat.le_of_ble_eq_true rfl, Nat.le_of_ble_eq_true rfl⟩ hK hP hD hS hA hE [0, 1] rfl rfl 0 rfl rfl rfl rfl hl.1 rfl (Nat.le_of_ble_eq_true rfl) dX10_takes_8 ⟨Nat.le_of_ble_eq_true rfl, Nat.le_of_ble_eq_true rfl⟩) hP hD hS hA [0, 1] [] rfl rfl rfl (by decide) (fun r_1 w H locs hw hP hD hS => ?_)
  obtain ⟨rfl, rfl⟩ := hw
  have hP : va_P V.1 vwCl [(z 0, .inr (10, mo z 0 0 0 0 0 0 0 0 0 0 (-1) 0 0 0 0 0)), (z 1, aI V 3075 (fun _ => 0))] H := hP
  have hD : va_D A [(z 0, .inr (10, mo z 0 0 0 0 0 0 0 0 0 0 (-1) 0 0 0 0 0)), (z 1, aI V 3075 (fun _ => 0))] := hD
  refine lv_if_ne (tgt := 17) hx hb dX10_takes_11 (by decide) (fun c_2 => absurd c_2 (by decide)) (fun _ => ?_)
  refine lv_bipush (v := (-2)) hx hb dX10_takes_14 (by decide) ?_
  exact fiI hx hb hr hlk hK hP hD hS dX10_takes_16 (Nat.le_of_ble_eq_true rfl) (Nat.le_of_ble_eq_true rfl) (⟨rfl, rfl⟩)
set_option maxHeartbeats 4000000 in
set_option maxRecDepth 100000 in
theorem c_X10_by_0 (l : Launch) (V : GV) (z : Nat → Nat) (p0 : Int32) (p1 : Int32) : Ct l V yX10_by (.code yX10_by cX10_by 3 (some .int)) 3 [.ref (z 0), .int p0, .int p1] [(z 0, .inr (10, mo z 0 0 0 0 0 0 0 0 0 0 (-1) 0 0 0 0 0)), (z 1, aI V 3075 (fun _ => 0))] 0 0 (QI V (fun (r : Int32) (w : va_W) => (r = (-2) ∧ w = [(z 0, .inr (10, mo z 0 0 0 0 0 0 0 0 0 0 (-1) 0 0 0 0 0)), (z 1, aI V 3075 (fun _ => 0))]))) := by
  refine Ct.of (by decide) (Nat.le_of_ble_eq_true rfl) (fun p e s m below meth c A ls hx hb hr hml hown hlk hnm hg hP hK hD hE hA hS hl => ?_)
  have hl : lv_has ls 3 [(0, .ref (z 0)), (1, .int p0), (2, .int p1)] := hl
  refine lv_aload_n hx hb dX10_by_0 rfl (lv_at hl 0 rfl) ?_
  refine lv_iconst (v := 0) hx hb dX10_by_1 (by decide) ?_
  refine va_put (ci := 10) (v := .int 0) (ty := .int) (C := RX10) (T := TX10) (N := 40) hx hb hg inX10 tyX10 tyX10_ok nmX10 hown hK hP hD hS 0 rfl rfl 0 (by decide) (hg _ q_5_224) (fun _ h9 => h9) rfl (by decide +kernel) rfl rfl (Nat.le_of_ble_eq_true rfl) dX10_by_2 (fun H locs hP hD hS => ?_)
  have hP : va_P V.1 vwCl [(z 0, .inr (10, mo z 0 0 0 0 0 0 0 0 0 0 (-1) 0 0 0 0 0)), (z 1, aI V 3075 (fun _ => 0))] H := hP
  have hD : va_D A [(z 0, .inr (10, mo z 0 0 0 0 0 0 0 0 0 0 (-1) 0 0 0 0 0)), (z 1, aI V 3075 (fun _ => 0))] := hD
  refine lv_aload_n hx hb dX10_by_5 rfl (lv_at hl 0 rfl) ?_
  refine lv_iload_n hx hb dX10_by_6 rfl (lv_at hl 2 rfl) ?_
  refine lv_i2l (v := p1.toInt64) hx hb dX10_by_7 rfl ?_
  refine jnI (wr := []) (rnV (rest := []) ⟨hx, hb, hml, hown, hg⟩ (c_X10_isHill_0 l V z p1.toInt64) mt_X10_isHill q_6_235 ⟨Nat.le_of_ble_eq_true rfl, Nat.le_of_ble_eq_true rfl⟩ hK hP hD hS hA hE [0, 1] rfl rfl 0 rfl rfl rfl rfl hl.1 rfl (Nat.le_of_ble_eq_true rfl) dX10_by_8 ⟨Nat.le_of_ble_eq_true rfl, Nat.le_of_ble_eq_true rfl⟩) hP hD hS hA [0, 1] [] rfl rfl rfl (by decide) (fun r_1 w H locs hw hP hD hS => ?_)
  obtain ⟨rfl, rfl⟩ := hw
  have hP : va_P V.1 vwCl [(z 0, .inr (10, mo z 0 0 0 0 0 0 0 0 0 0 (-1) 0 0 0 0 0)), (z 1, aI V 3075 (fun _ => 0))] H := hP
  have hD : va_D A [(z 0, .inr (10, mo z 0 0 0 0 0 0 0 0 0 0 (-1) 0 0 0 0 0)), (z 1, aI V 3075 (fun _ => 0))] := hD
  refine lv_if_ne (tgt := 17) hx hb dX10_by_11 (by decide) (fun c_2 => absurd c_2 (by decide)) (fun _ => ?_)
  refine lv_bipush (v := (-2)) hx hb dX10_by_14 (by decide) ?_
  exact fiI hx hb hr hlk hK hP hD hS dX10_by_16 (Nat.le_of_ble_eq_true rfl) (Nat.le_of_ble_eq_true rfl) (⟨rfl, rfl⟩)
set_option maxHeartbeats 4000000 in
set_option maxRecDepth 100000 in
theorem c_X10_whySteal_0 (l : Launch) (V : GV) (z : Nat → Nat) (j0 : Int64) : Ct l V yX10_whySteal (.code yX10_whySteal cX10_whySteal 3 (some .int)) 3 [.ref (z 0), .long j0] [(z 0, .inr (10, mo z 0 0 0 0 0 0 0 0 0 0 (-1) 0 0 0 0 0)), (z 1, aI V 3075 (fun _ => 0))] 0 0 (QI V (fun (r : Int32) (w : va_W) => (r = 1 ∧ w = [(z 0, .inr (10, mo z 0 0 0 0 0 0 0 0 0 0 (-1) 0 0 0 0 0)), (z 1, aI V 3075 (fun _ => 0))]))) := by
  refine Ct.of (by decide) (Nat.le_of_ble_eq_true rfl) (fun p e s m below meth c A ls hx hb hr hml hown hlk hnm hg hP hK hD hE hA hS hl => ?_)
  have hl : lv_has ls 3 [(0, .ref (z 0)), (1, .long j0)] := hl
  refine lv_aload_n hx hb dX10_whySteal_0 rfl (lv_at hl 0 rfl) ?_
  refine lv_lload_n hx hb dX10_whySteal_1 rfl (lv_at hl 1 rfl) ?_
  refine jnI (wr := []) (rnV (rest := []) ⟨hx, hb, hml, hown, hg⟩ (c_X10_isHill_0 l V z j0) mt_X10_isHill q_6_235 ⟨Nat.le_of_ble_eq_true rfl, Nat.le_of_ble_eq_true rfl⟩ hK hP hD hS hA hE [0, 1] rfl rfl 0 rfl rfl rfl rfl hl.1 rfl (Nat.le_of_ble_eq_true rfl) dX10_whySteal_2 ⟨Nat.le_of_ble_eq_true rfl, Nat.le_of_ble_eq_true rfl⟩) hP hD hS hA [0, 1] [] rfl rfl rfl (by decide) (fun r_1 w H locs hw hP hD hS => ?_)
  obtain ⟨rfl, rfl⟩ := hw
  have hP : va_P V.1 vwCl [(z 0, .inr (10, mo z 0 0 0 0 0 0 0 0 0 0 (-1) 0 0 0 0 0)), (z 1, aI V 3075 (fun _ => 0))] H := hP
  have hD : va_D A [(z 0, .inr (10, mo z 0 0 0 0 0 0 0 0 0 0 (-1) 0 0 0 0 0)), (z 1, aI V 3075 (fun _ => 0))] := hD
  refine lv_if_ne (tgt := 12) hx hb dX10_whySteal_5 (by decide) (fun c_2 => absurd c_2 (by decide)) (fun _ => ?_)
  refine lv_iconst (v := 1) hx hb dX10_whySteal_8 (by decide) ?_
  refine lv_goto (tgt := 30) hx hb dX10_whySteal_9 (by decide) ?_
  exact fiI hx hb hr hlk hK hP hD hS dX10_whySteal_30 (Nat.le_of_ble_eq_true rfl) (Nat.le_of_ble_eq_true rfl) (⟨rfl, rfl⟩)
set_option maxHeartbeats 4000000 in
set_option maxRecDepth 100000 in
theorem c_X10_steal_0 (l : Launch) (V : GV) (z : Nat → Nat) (p0 : Int32) : Ct l V yX10_steal (.code yX10_steal cX10_steal 3 (some .int)) 4 [.ref (z 0), .int p0] [(z 0, .inr (10, mo z 0 0 0 0 0 0 0 0 0 0 (-1) 0 0 0 0 0)), (z 1, aI V 3075 (fun _ => 0))] 0 0 (QI V (fun (r : Int32) (w : va_W) => (r = (-11) ∧ w = [(z 0, .inr (10, mo z 0 0 0 0 0 0 0 0 0 0 (-1) 0 0 0 0 0)), (z 1, aI V 3075 (fun _ => 0))]))) := by
  refine Ct.of (by decide) (Nat.le_of_ble_eq_true rfl) (fun p e s m below meth c A ls hx hb hr hml hown hlk hnm hg hP hK hD hE hA hS hl => ?_)
  have hl : lv_has ls 3 [(0, .ref (z 0)), (1, .int p0)] := hl
  refine lv_aload_n hx hb dX10_steal_0 rfl (lv_at hl 0 rfl) ?_
  refine lv_iconst (v := 0) hx hb dX10_steal_1 (by decide) ?_
  refine va_put (ci := 10) (v := .int 0) (ty := .int) (C := RX10) (T := TX10) (N := 40) hx hb hg inX10 tyX10 tyX10_ok nmX10 hown hK hP hD hS 0 rfl rfl 0 (by decide) (hg _ q_5_224) (fun _ h9 => h9) rfl (by decide +kernel) rfl rfl (Nat.le_of_ble_eq_true rfl) dX10_steal_2 (fun H locs hP hD hS => ?_)
  have hP : va_P V.1 vwCl [(z 0, .inr (10, mo z 0 0 0 0 0 0 0 0 0 0 (-1) 0 0 0 0 0)), (z 1, aI V 3075 (fun _ => 0))] H := hP
  have hD : va_D A [(z 0, .inr (10, mo z 0 0 0 0 0 0 0 0 0 0 (-1) 0 0 0 0 0)), (z 1, aI V 3075 (fun _ => 0))] := hD
  refine lv_aload_n hx hb dX10_steal_5 rfl (lv_at hl 0 rfl) ?_
  refine lv_iload_n hx hb dX10_steal_6 rfl (lv_at hl 1 rfl) ?_
  refine lv_i2l (v := p0.toInt64) hx hb dX10_steal_7 rfl ?_
  refine jnI (wr := []) (rnV (rest := []) ⟨hx, hb, hml, hown, hg⟩ (c_X10_whySteal_0 l V z p0.toInt64) mt_X10_whySteal q_7_85 ⟨Nat.le_of_ble_eq_true rfl, Nat.le_of_ble_eq_true rfl⟩ hK hP hD hS hA hE [0, 1] rfl rfl 0 rfl rfl rfl rfl hl.1 rfl (Nat.le_of_ble_eq_true rfl) dX10_steal_8 ⟨Nat.le_of_ble_eq_true rfl, Nat.le_of_ble_eq_true rfl⟩) hP hD hS hA [0, 1] [] rfl rfl rfl (by decide) (fun r_1 w H locs hw hP hD hS => ?_)
  obtain ⟨rfl, rfl⟩ := hw
  have hP : va_P V.1 vwCl [(z 0, .inr (10, mo z 0 0 0 0 0 0 0 0 0 0 (-1) 0 0 0 0 0)), (z 1, aI V 3075 (fun _ => 0))] H := hP
  have hD : va_D A [(z 0, .inr (10, mo z 0 0 0 0 0 0 0 0 0 0 (-1) 0 0 0 0 0)), (z 1, aI V 3075 (fun _ => 0))] := hD
  refine lv_istore_n (lv' := [(2, .int 1), (0, .ref (z 0)), (1, .int p0)]) hx hb dX10_steal_11 rfl hl (by decide) rfl (fun ls hl => ?_)
  refine lv_iload_n hx hb dX10_steal_12 rfl (lv_at hl 0 rfl) ?_
  refine lv_if_eq (tgt := 21) hx hb dX10_steal_13 (by decide) (fun c_2 => absurd c_2 (by decide)) (fun _ => ?_)
  refine lv_bipush (v := (-10)) hx hb dX10_steal_16 (by decide) ?_
  refine lv_iload_n hx hb dX10_steal_18 rfl (lv_at hl 0 rfl) ?_
  refine lv_isub hx hb dX10_steal_19 ?_
  refine tpi (y := (-11)) (by decide +kernel) ?_
  exact fiI hx hb hr hlk hK hP hD hS dX10_steal_20 (Nat.le_of_ble_eq_true rfl) (Nat.le_of_ble_eq_true rfl) (⟨rfl, rfl⟩)
set_option maxHeartbeats 4000000 in
set_option maxRecDepth 100000 in
theorem c_X10_undo_0 (l : Launch) (V : GV) (z : Nat → Nat) (p0 : Int32) : Ct l V yX10_undo (.code yX10_undo cX10_undo 3 (some .int)) 2 [.ref (z 0), .int p0] [(z 0, .inr (10, mo z 0 0 0 0 0 0 0 0 0 0 (-1) 0 0 0 0 0)), (z 1, aI V 3075 (fun _ => 0))] 0 0 (QI V (fun (r : Int32) (w : va_W) => (r = (-3) ∧ w = [(z 0, .inr (10, mo z 0 0 0 0 0 0 0 0 0 0 (-1) 0 0 0 0 0)), (z 1, aI V 3075 (fun _ => 0))]))) := by
  refine Ct.of (by decide) (Nat.le_of_ble_eq_true rfl) (fun p e s m below meth c A ls hx hb hr hml hown hlk hnm hg hP hK hD hE hA hS hl => ?_)
  have hl : lv_has ls 3 [(0, .ref (z 0)), (1, .int p0)] := hl
  refine lv_aload_n hx hb dX10_undo_0 rfl (lv_at hl 0 rfl) ?_
  refine lv_iconst (v := 0) hx hb dX10_undo_1 (by decide) ?_
  refine va_put (ci := 10) (v := .int 0) (ty := .int) (C := RX10) (T := TX10) (N := 40) hx hb hg inX10 tyX10 tyX10_ok nmX10 hown hK hP hD hS 0 rfl rfl 0 (by decide) (hg _ q_5_224) (fun _ h9 => h9) rfl (by decide +kernel) rfl rfl (Nat.le_of_ble_eq_true rfl) dX10_undo_2 (fun H locs hP hD hS => ?_)
  have hP : va_P V.1 vwCl [(z 0, .inr (10, mo z 0 0 0 0 0 0 0 0 0 0 (-1) 0 0 0 0 0)), (z 1, aI V 3075 (fun _ => 0))] H := hP
  have hD : va_D A [(z 0, .inr (10, mo z 0 0 0 0 0 0 0 0 0 0 (-1) 0 0 0 0 0)), (z 1, aI V 3075 (fun _ => 0))] := hD
  refine lv_iload_n hx hb dX10_undo_5 rfl (lv_at hl 1 rfl) ?_
  refine lv_i2l (v := p0.toInt64) hx hb dX10_undo_6 rfl ?_
  refine lv_lconst (v := 1) hx hb dX10_undo_7 (by decide) ?_
  refine lv_ldc2 (v := 10) hx hb hown (hg _ q_7_102) dX10_undo_8 ?_
  refine jnI (wr := [(z 0, .inr (10, mo z 0 0 0 0 0 0 0 0 0 0 (-1) 0 0 0 0 0)), (z 1, aI V 3075 (fun _ => 0))]) (rnS (rest := []) ⟨hx, hb, hml, hown, hg⟩ (c_X10_within_0 l V p0.toInt64 1 10) mt_X10_within q_6_114 ⟨Nat.le_of_ble_eq_true rfl, Nat.le_of_ble_eq_true rfl⟩ hK hP hD hS hA hE [] rfl rfl rfl hl.1 rfl (Nat.le_of_ble_eq_true rfl) dX10_undo_11 ⟨Nat.le_of_ble_eq_true rfl, Nat.le_of_ble_eq_true rfl⟩) hP hD hS hA [] [0, 1] rfl rfl rfl (by decide) (fun r_1 w H locs hw hP hD hS => ?_)
  rcases hw with ⟨c_2, rfl, rfl⟩ | ⟨c_3, c_4, rfl, rfl⟩ | ⟨c_5, c_6, rfl, rfl⟩
  · have hP : va_P V.1 vwCl [(z 0, .inr (10, mo z 0 0 0 0 0 0 0 0 0 0 (-1) 0 0 0 0 0)), (z 1, aI V 3075 (fun _ => 0))] H := hP
    have hD : va_D A [(z 0, .inr (10, mo z 0 0 0 0 0 0 0 0 0 0 (-1) 0 0 0 0 0)), (z 1, aI V 3075 (fun _ => 0))] := hD
    refine lv_if_eq (tgt := 28) hx hb dX10_undo_14 (by decide) (fun _ => ?_) (fun c_7 => absurd c_7 (by decide))
    refine lv_bipush (v := (-3)) hx hb dX10_undo_28 (by decide) ?_
    exact fiI hx hb hr hlk hK hP hD hS dX10_undo_30 (Nat.le_of_ble_eq_true rfl) (Nat.le_of_ble_eq_true rfl) (⟨rfl, rfl⟩)
  · have hP : va_P V.1 vwCl [(z 0, .inr (10, mo z 0 0 0 0 0 0 0 0 0 0 (-1) 0 0 0 0 0)), (z 1, aI V 3075 (fun _ => 0))] H := hP
    have hD : va_D A [(z 0, .inr (10, mo z 0 0 0 0 0 0 0 0 0 0 (-1) 0 0 0 0 0)), (z 1, aI V 3075 (fun _ => 0))] := hD
    refine lv_if_eq (tgt := 28) hx hb dX10_undo_14 (by decide) (fun _ => ?_) (fun c_8 => absurd c_8 (by decide))
    refine lv_bipush (v := (-3)) hx hb dX10_undo_28 (by decide) ?_
    exact fiI hx hb hr hlk hK hP hD hS dX10_undo_30 (Nat.le_of_ble_eq_true rfl) (Nat.le_of_ble_eq_true rfl) (⟨rfl, rfl⟩)
  · have hP : va_P V.1 vwCl [(z 0, .inr (10, mo z 0 0 0 0 0 0 0 0 0 0 (-1) 0 0 0 0 0)), (z 1, aI V 3075 (fun _ => 0))] H := hP
    have hD : va_D A [(z 0, .inr (10, mo z 0 0 0 0 0 0 0 0 0 0 (-1) 0 0 0 0 0)), (z 1, aI V 3075 (fun _ => 0))] := hD
    refine lv_if_eq (tgt := 28) hx hb dX10_undo_14 (by decide) (fun c_9 => absurd c_9 (by decide)) (fun _ => ?_)
    refine lv_iload_n hx hb dX10_undo_17 rfl (lv_at hl 1 rfl) ?_
    refine lv_aload_n hx hb dX10_undo_18 rfl (lv_at hl 0 rfl) ?_
    refine va_get (ci := 10) (v := .ref (z 1)) (C := RX10) (T := TX10) (N := 40) hx hb hg inX10 hown hK hP 0 rfl rfl 1 (by decide) (hg _ q_5_225) (fun _ h9 => h9) rfl dX10_undo_19 ?_
    refine lv_bipush (v := 53) hx hb dX10_undo_22 (by decide) ?_
    refine va_iald hx hb hK hP 1 0 rfl rfl (vin (by decide +kernel)) dX10_undo_24 ?_
    refine tpi (y := 0) (rfl) ?_
    refine lv_icmp_le (tgt := 31) hx hb dX10_undo_25 (by decide) (fun c_10 => False.elim (by have c_11 := c_10; exact (by simp only [tI_lt, tI_le, tI_eq, tL_lt, tL_le, tL_eq, tWx, (by decide : (0 : Int32).toInt = 0), (by decide : (1 : Int64).toInt = 1), (by decide : (10 : Int64).toInt = 10)] at c_5 c_6 c_11; omega))) (fun _ => ?_)
    refine lv_bipush (v := (-3)) hx hb dX10_undo_28 (by decide) ?_
    exact fiI hx hb hr hlk hK hP hD hS dX10_undo_30 (Nat.le_of_ble_eq_true rfl) (Nat.le_of_ble_eq_true rfl) (⟨rfl, rfl⟩)
set_option maxHeartbeats 4000000 in
set_option maxRecDepth 100000 in
theorem c_X10_fault_0 (l : Launch) (V : GV) (z : Nat → Nat) (p0 : Int32) : Ct l V yX10_fault (.code yX10_fault cX10_fault 2 (some .int)) 1 [.ref (z 0), .int p0] [(z 0, .inr (10, mo z 0 0 0 0 0 0 0 0 0 0 (-1) 0 0 0 0 0))] 0 0 (QI V (fun (r : Int32) (w : va_W) => ((¬ p0 = 0) ∧ (¬ p0 = 1) ∧ r = (-1) ∧ w = [(z 0, .inr (10, mo z 0 0 0 0 0 0 0 0 0 0 (-1) 0 0 0 0 0))]) ∨ ((¬ p0 = 0) ∧ p0 = 1 ∧ r = (-1) ∧ w = [(z 0, .inr (10, mo z 0 0 0 0 0 0 0 0 0 0 (-1) 0 0 0 0 0))]) ∨ (p0 = 0 ∧ r = 0 ∧ w = [(z 0, .inr (10, mo z 0 0 0 0 0 0 0 0 0 0 (-1) 0 0 0 0 0))]))) := by
  refine Ct.of (by decide) (Nat.le_of_ble_eq_true rfl) (fun p e s m below meth c A ls hx hb hr hml hown hlk hnm hg hP hK hD hE hA hS hl => ?_)
  have hl : lv_has ls 2 [(0, .ref (z 0)), (1, .int p0)] := hl
  refine lv_aload_n hx hb dX10_fault_0 rfl (lv_at hl 0 rfl) ?_
  refine lv_iconst (v := 0) hx hb dX10_fault_1 (by decide) ?_
  refine va_put (ci := 10) (v := .int 0) (ty := .int) (C := RX10) (T := TX10) (N := 40) hx hb hg inX10 tyX10 tyX10_ok nmX10 hown hK hP hD hS 0 rfl rfl 0 (by decide) (hg _ q_5_224) (fun _ h9 => h9) rfl (by decide +kernel) rfl rfl (Nat.le_of_ble_eq_true rfl) dX10_fault_2 (fun H locs hP hD hS => ?_)
  have hP : va_P V.1 vwCl [(z 0, .inr (10, mo z 0 0 0 0 0 0 0 0 0 0 (-1) 0 0 0 0 0))] H := hP
  have hD : va_D A [(z 0, .inr (10, mo z 0 0 0 0 0 0 0 0 0 0 (-1) 0 0 0 0 0))] := hD
  refine lv_iload_n hx hb dX10_fault_5 rfl (lv_at hl 1 rfl) ?_
  refine lv_if_ne (tgt := 16) hx hb dX10_fault_6 (by decide) (fun c_1 => ?_) (fun c_1 => ?_)
  · refine lv_iload_n hx hb dX10_fault_16 rfl (lv_at hl 1 rfl) ?_
    refine lv_iconst (v := 1) hx hb dX10_fault_17 (by decide) ?_
    refine lv_icmp_ne (tgt := 28) hx hb dX10_fault_18 (by decide) (fun c_2 => ?_) (fun c_2 => ?_)
    · refine lv_iconst (v := (-1)) hx hb dX10_fault_28 (by decide) ?_
      exact fiI hx hb hr hlk hK hP hD hS dX10_fault_29 (Nat.le_of_ble_eq_true rfl) (Nat.le_of_ble_eq_true rfl) (Or.inl ⟨c_1, c_2, rfl, rfl⟩)
    · refine lv_aload_n hx hb dX10_fault_21 rfl (lv_at hl 0 rfl) ?_
      refine va_get (ci := 10) (v := .int (-1)) (C := RX10) (T := TX10) (N := 40) hx hb hg inX10 hown hK hP 0 rfl rfl 14 (by decide) (hg _ q_5_238) (fun _ h9 => h9) rfl dX10_fault_22 ?_
      refine lv_goto (tgt := 29) hx hb dX10_fault_25 (by decide) ?_
      exact fiI hx hb hr hlk hK hP hD hS dX10_fault_29 (Nat.le_of_ble_eq_true rfl) (Nat.le_of_ble_eq_true rfl) (Or.inr (Or.inl ⟨c_1, c_2, rfl, rfl⟩))
  · refine lv_aload_n hx hb dX10_fault_9 rfl (lv_at hl 0 rfl) ?_
    refine va_get (ci := 10) (v := .int 0) (C := RX10) (T := TX10) (N := 40) hx hb hg inX10 hown hK hP 0 rfl rfl 13 (by decide) (hg _ q_5_237) (fun _ h9 => h9) rfl dX10_fault_10 ?_
    refine lv_goto (tgt := 29) hx hb dX10_fault_13 (by decide) ?_
    exact fiI hx hb hr hlk hK hP hD hS dX10_fault_29 (Nat.le_of_ble_eq_true rfl) (Nat.le_of_ble_eq_true rfl) (Or.inr (Or.inr (⟨c_1, rfl, rfl⟩)))
set_option maxHeartbeats 4000000 in
set_option maxRecDepth 100000 in
theorem c_X10_noTray_0 (l : Launch) (V : GV) (z : Nat → Nat) (p0 : Int32) : Ct l V yX10_noTray (.code yX10_noTray cX10_noTray 2 (some .int)) 2 [.ref (z 0), .int p0] [(z 0, .inr (10, mo z 0 0 0 0 0 0 0 0 0 0 (-1) 0 0 0 0 0)), (z 37, aI V 4 (upd (upd (upd (upd (fun _ => 0) 0 (-1)) 1 (-1)) 2 (-1)) 3 (-1)))] 0 0 (QI V (fun (r : Int32) (w : va_W) => (p0.toInt64 < 0 ∧ r = (-2) ∧ w = [(z 0, .inr (10, mo z 0 0 0 0 0 0 0 0 0 0 (-1) 0 0 0 0 0)), (z 37, aI V 4 (upd (upd (upd (upd (fun _ => 0) 0 (-1)) 1 (-1)) 2 (-1)) 3 (-1)))]) ∨ ((¬ p0.toInt64 < 0) ∧ 3 < p0.toInt64 ∧ r = (-2) ∧ w = [(z 0, .inr (10, mo z 0 0 0 0 0 0 0 0 0 0 (-1) 0 0 0 0 0)), (z 37, aI V 4 (upd (upd (upd (upd (fun _ => 0) 0 (-1)) 1 (-1)) 2 (-1)) 3 (-1)))]) ∨ ((¬ p0.toInt64 < 0) ∧ (¬ 3 < p0.toInt64) ∧ p0 = 0 ∧ r = (-6) ∧ w = [(z 0, .inr (10, mo z 0 0 0 0 0 0 0 0 0 0 (-1) 0 0 0 0 0)), (z 37, aI V 4 (upd (upd (upd (upd (fun _ => 0) 0 (-1)) 1 (-1)) 2 (-1)) 3 (-1)))]) ∨ ((¬ p0.toInt64 < 0) ∧ (¬ 3 < p0.toInt64) ∧ p0 = 1 ∧ r = (-6) ∧ w = [(z 0, .inr (10, mo z 0 0 0 0 0 0 0 0 0 0 (-1) 0 0 0 0 0)), (z 37, aI V 4 (upd (upd (upd (upd (fun _ => 0) 0 (-1)) 1 (-1)) 2 (-1)) 3 (-1)))]) ∨ ((¬ p0.toInt64 < 0) ∧ (¬ 3 < p0.toInt64) ∧ p0 = 2 ∧ r = (-6) ∧ w = [(z 0, .inr (10, mo z 0 0 0 0 0 0 0 0 0 0 (-1) 0 0 0 0 0)), (z 37, aI V 4 (upd (upd (upd (upd (fun _ => 0) 0 (-1)) 1 (-1)) 2 (-1)) 3 (-1)))]) ∨ ((¬ p0.toInt64 < 0) ∧ (¬ 3 < p0.toInt64) ∧ p0 = 3 ∧ r = (-6) ∧ w = [(z 0, .inr (10, mo z 0 0 0 0 0 0 0 0 0 0 (-1) 0 0 0 0 0)), (z 37, aI V 4 (upd (upd (upd (upd (fun _ => 0) 0 (-1)) 1 (-1)) 2 (-1)) 3 (-1)))]))) := by
  refine Ct.of (by decide) (Nat.le_of_ble_eq_true rfl) (fun p e s m below meth c A ls hx hb hr hml hown hlk hnm hg hP hK hD hE hA hS hl => ?_)
  have hl : lv_has ls 2 [(0, .ref (z 0)), (1, .int p0)] := hl
  refine lv_iload_n hx hb dX10_noTray_0 rfl (lv_at hl 1 rfl) ?_
  refine lv_i2l (v := p0.toInt64) hx hb dX10_noTray_1 rfl ?_
  refine lv_lconst (v := 0) hx hb dX10_noTray_2 (by decide) ?_
  refine lv_ldc2 (v := 3) hx hb hown (hg _ q_7_107) dX10_noTray_3 ?_
  refine jnI (wr := [(z 0, .inr (10, mo z 0 0 0 0 0 0 0 0 0 0 (-1) 0 0 0 0 0)), (z 37, aI V 4 (upd (upd (upd (upd (fun _ => 0) 0 (-1)) 1 (-1)) 2 (-1)) 3 (-1)))]) (rnS (rest := []) ⟨hx, hb, hml, hown, hg⟩ (c_X10_within_0 l V p0.toInt64 0 3) mt_X10_within q_6_114 ⟨Nat.le_of_ble_eq_true rfl, Nat.le_of_ble_eq_true rfl⟩ hK hP hD hS hA hE [] rfl rfl rfl hl.1 rfl (Nat.le_of_ble_eq_true rfl) dX10_noTray_6 ⟨Nat.le_of_ble_eq_true rfl, Nat.le_of_ble_eq_true rfl⟩) hP hD hS hA [] [0, 1] rfl rfl rfl (by decide) (fun r_1 w H locs hw hP hD hS => ?_)
  rcases hw with ⟨c_2, rfl, rfl⟩ | ⟨c_3, c_4, rfl, rfl⟩ | ⟨c_5, c_6, rfl, rfl⟩
  · have hP : va_P V.1 vwCl [(z 0, .inr (10, mo z 0 0 0 0 0 0 0 0 0 0 (-1) 0 0 0 0 0)), (z 37, aI V 4 (upd (upd (upd (upd (fun _ => 0) 0 (-1)) 1 (-1)) 2 (-1)) 3 (-1)))] H := hP
    have hD : va_D A [(z 0, .inr (10, mo z 0 0 0 0 0 0 0 0 0 0 (-1) 0 0 0 0 0)), (z 37, aI V 4 (upd (upd (upd (upd (fun _ => 0) 0 (-1)) 1 (-1)) 2 (-1)) 3 (-1)))] := hD
    refine lv_if_ne (tgt := 17) hx hb dX10_noTray_9 (by decide) (fun c_7 => absurd c_7 (by decide)) (fun _ => ?_)
    refine lv_bipush (v := (-2)) hx hb dX10_noTray_12 (by decide) ?_
    refine lv_goto (tgt := 33) hx hb dX10_noTray_14 (by decide) ?_
    exact fiI hx hb hr hlk hK hP hD hS dX10_noTray_33 (Nat.le_of_ble_eq_true rfl) (Nat.le_of_ble_eq_true rfl) (Or.inl ⟨c_2, rfl, rfl⟩)
  · have hP : va_P V.1 vwCl [(z 0, .inr (10, mo z 0 0 0 0 0 0 0 0 0 0 (-1) 0 0 0 0 0)), (z 37, aI V 4 (upd (upd (upd (upd (fun _ => 0) 0 (-1)) 1 (-1)) 2 (-1)) 3 (-1)))] H := hP
    have hD : va_D A [(z 0, .inr (10, mo z 0 0 0 0 0 0 0 0 0 0 (-1) 0 0 0 0 0)), (z 37, aI V 4 (upd (upd (upd (upd (fun _ => 0) 0 (-1)) 1 (-1)) 2 (-1)) 3 (-1)))] := hD
    refine lv_if_ne (tgt := 17) hx hb dX10_noTray_9 (by decide) (fun c_8 => absurd c_8 (by decide)) (fun _ => ?_)
    refine lv_bipush (v := (-2)) hx hb dX10_noTray_12 (by decide) ?_
    refine lv_goto (tgt := 33) hx hb dX10_noTray_14 (by decide) ?_
    exact fiI hx hb hr hlk hK hP hD hS dX10_noTray_33 (Nat.le_of_ble_eq_true rfl) (Nat.le_of_ble_eq_true rfl) (Or.inr (Or.inl ⟨c_3, c_4, rfl, rfl⟩))
  · have hP : va_P V.1 vwCl [(z 0, .inr (10, mo z 0 0 0 0 0 0 0 0 0 0 (-1) 0 0 0 0 0)), (z 37, aI V 4 (upd (upd (upd (upd (fun _ => 0) 0 (-1)) 1 (-1)) 2 (-1)) 3 (-1)))] H := hP
    have hD : va_D A [(z 0, .inr (10, mo z 0 0 0 0 0 0 0 0 0 0 (-1) 0 0 0 0 0)), (z 37, aI V 4 (upd (upd (upd (upd (fun _ => 0) 0 (-1)) 1 (-1)) 2 (-1)) 3 (-1)))] := hD
    refine lv_if_ne (tgt := 17) hx hb dX10_noTray_9 (by decide) (fun _ => ?_) (fun c_9 => absurd c_9 (by decide))
    refine lv_aload_n hx hb dX10_noTray_17 rfl (lv_at hl 0 rfl) ?_
    refine va_get (ci := 10) (v := .ref (z 37)) (C := RX10) (T := TX10) (N := 40) hx hb hg inX10 hown hK hP 0 rfl rfl 37 (by decide) (hg _ q_6_21) (fun _ h9 => h9) rfl dX10_noTray_18 ?_
    refine lv_iload_n hx hb dX10_noTray_21 rfl (lv_at hl 1 rfl) ?_
    have c_10 : p0 = 0 ∨ p0 = 1 ∨ p0 = 2 ∨ p0 = 3 := by simp only [tI_lt, tI_le, tI_eq, tL_lt, tL_le, tL_eq, tWx, (by decide : (0 : Int32).toInt = 0), (by decide : (0 : Int64).toInt = 0), (by decide : (1 : Int32).toInt = 1), (by decide : (2 : Int32).toInt = 2), (by decide : (3 : Int32).toInt = 3), (by decide : (3 : Int64).toInt = 3)] at c_5 c_6 ⊢; omega
    rcases c_10 with rfl | rfl | rfl | rfl
    · refine va_iald hx hb hK hP 1 0 rfl rfl (vin (by decide +kernel)) dX10_noTray_22 ?_
      refine tpi (y := (-1)) (rfl) ?_
      refine lv_iconst (v := (-1)) hx hb dX10_noTray_23 (by decide) ?_
      refine lv_icmp_ne (tgt := 32) hx hb dX10_noTray_24 (by decide) (fun c_11 => absurd c_11 (by decide)) (fun _ => ?_)
      refine lv_bipush (v := (-6)) hx hb dX10_noTray_27 (by decide) ?_
      refine lv_goto (tgt := 33) hx hb dX10_noTray_29 (by decide) ?_
      exact fiI hx hb hr hlk hK hP hD hS dX10_noTray_33 (Nat.le_of_ble_eq_true rfl) (Nat.le_of_ble_eq_true rfl) (Or.inr (Or.inr (Or.inl ⟨c_5, c_6, rfl, rfl, rfl⟩)))
    · refine va_iald hx hb hK hP 1 0 rfl rfl (vin (by decide +kernel)) dX10_noTray_22 ?_
      refine tpi (y := (-1)) (rfl) ?_
      refine lv_iconst (v := (-1)) hx hb dX10_noTray_23 (by decide) ?_
      refine lv_icmp_ne (tgt := 32) hx hb dX10_noTray_24 (by decide) (fun c_12 => absurd c_12 (by decide)) (fun _ => ?_)
      refine lv_bipush (v := (-6)) hx hb dX10_noTray_27 (by decide) ?_
      refine lv_goto (tgt := 33) hx hb dX10_noTray_29 (by decide) ?_
      exact fiI hx hb hr hlk hK hP hD hS dX10_noTray_33 (Nat.le_of_ble_eq_true rfl) (Nat.le_of_ble_eq_true rfl) (Or.inr (Or.inr (Or.inr (Or.inl ⟨c_5, c_6, rfl, rfl, rfl⟩))))
    · refine va_iald hx hb hK hP 1 0 rfl rfl (vin (by decide +kernel)) dX10_noTray_22 ?_
      refine tpi (y := (-1)) (rfl) ?_
      refine lv_iconst (v := (-1)) hx hb dX10_noTray_23 (by decide) ?_
      refine lv_icmp_ne (tgt := 32) hx hb dX10_noTray_24 (by decide) (fun c_13 => absurd c_13 (by decide)) (fun _ => ?_)
      refine lv_bipush (v := (-6)) hx hb dX10_noTray_27 (by decide) ?_
      refine lv_goto (tgt := 33) hx hb dX10_noTray_29 (by decide) ?_
      exact fiI hx hb hr hlk hK hP hD hS dX10_noTray_33 (Nat.le_of_ble_eq_true rfl) (Nat.le_of_ble_eq_true rfl) (Or.inr (Or.inr (Or.inr (Or.inr (Or.inl ⟨c_5, c_6, rfl, rfl, rfl⟩)))))
    · refine va_iald hx hb hK hP 1 0 rfl rfl (vin (by decide +kernel)) dX10_noTray_22 ?_
      refine tpi (y := (-1)) (rfl) ?_
      refine lv_iconst (v := (-1)) hx hb dX10_noTray_23 (by decide) ?_
      refine lv_icmp_ne (tgt := 32) hx hb dX10_noTray_24 (by decide) (fun c_14 => absurd c_14 (by decide)) (fun _ => ?_)
      refine lv_bipush (v := (-6)) hx hb dX10_noTray_27 (by decide) ?_
      refine lv_goto (tgt := 33) hx hb dX10_noTray_29 (by decide) ?_
      exact fiI hx hb hr hlk hK hP hD hS dX10_noTray_33 (Nat.le_of_ble_eq_true rfl) (Nat.le_of_ble_eq_true rfl) (Or.inr (Or.inr (Or.inr (Or.inr (Or.inr (⟨c_5, c_6, rfl, rfl, rfl⟩))))))
set_option maxHeartbeats 4000000 in
set_option maxRecDepth 100000 in
theorem c_X10_judge_0 (l : Launch) (V : GV) (z : Nat → Nat) (p0 : Int32) (p1 : Int32) : Ct l V yX10_judge (.code yX10_judge cX10_judge 6 (some .int)) 3 [.ref (z 0), .int p0, .int p1] [(z 0, .inr (10, mo z 0 0 0 0 0 0 0 0 0 0 (-1) 0 0 0 0 0)), (z 37, aI V 4 (upd (upd (upd (upd (fun _ => 0) 0 (-1)) 1 (-1)) 2 (-1)) 3 (-1)))] 0 0 (QI V (fun (r : Int32) (w : va_W) => (p1.toInt64 < 0 ∧ r = (-2) ∧ w = [(z 0, .inr (10, mo z 0 0 0 0 0 0 0 0 0 0 (-1) 0 0 0 0 0)), (z 37, aI V 4 (upd (upd (upd (upd (fun _ => 0) 0 (-1)) 1 (-1)) 2 (-1)) 3 (-1)))]) ∨ ((¬ p1.toInt64 < 0) ∧ 3 < p1.toInt64 ∧ r = (-2) ∧ w = [(z 0, .inr (10, mo z 0 0 0 0 0 0 0 0 0 0 (-1) 0 0 0 0 0)), (z 37, aI V 4 (upd (upd (upd (upd (fun _ => 0) 0 (-1)) 1 (-1)) 2 (-1)) 3 (-1)))]) ∨ ((¬ p1.toInt64 < 0) ∧ (¬ 3 < p1.toInt64) ∧ p0.toInt64 < 0 ∧ r = (-2) ∧ w = [(z 0, .inr (10, mo z 0 0 0 0 0 0 0 0 0 0 (-1) 0 0 0 0 0)), (z 37, aI V 4 (upd (upd (upd (upd (fun _ => 0) 0 (-1)) 1 (-1)) 2 (-1)) 3 (-1)))]) ∨ ((¬ p1.toInt64 < 0) ∧ (¬ 3 < p1.toInt64) ∧ (¬ p0.toInt64 < 0) ∧ 3 < p0.toInt64 ∧ r = (-2) ∧ w = [(z 0, .inr (10, mo z 0 0 0 0 0 0 0 0 0 0 (-1) 0 0 0 0 0)), (z 37, aI V 4 (upd (upd (upd (upd (fun _ => 0) 0 (-1)) 1 (-1)) 2 (-1)) 3 (-1)))]) ∨ ((¬ p1.toInt64 < 0) ∧ (¬ 3 < p1.toInt64) ∧ (¬ p0.toInt64 < 0) ∧ (¬ 3 < p0.toInt64) ∧ p0 = 0 ∧ r = (-6) ∧ w = [(z 0, .inr (10, mo z 0 0 0 0 0 0 0 0 0 0 (-1) 0 0 0 0 0)), (z 37, aI V 4 (upd (upd (upd (upd (fun _ => 0) 0 (-1)) 1 (-1)) 2 (-1)) 3 (-1)))]) ∨ ((¬ p1.toInt64 < 0) ∧ (¬ 3 < p1.toInt64) ∧ (¬ p0.toInt64 < 0) ∧ (¬ 3 < p0.toInt64) ∧ p0 = 1 ∧ r = (-6) ∧ w = [(z 0, .inr (10, mo z 0 0 0 0 0 0 0 0 0 0 (-1) 0 0 0 0 0)), (z 37, aI V 4 (upd (upd (upd (upd (fun _ => 0) 0 (-1)) 1 (-1)) 2 (-1)) 3 (-1)))]) ∨ ((¬ p1.toInt64 < 0) ∧ (¬ 3 < p1.toInt64) ∧ (¬ p0.toInt64 < 0) ∧ (¬ 3 < p0.toInt64) ∧ p0 = 2 ∧ r = (-6) ∧ w = [(z 0, .inr (10, mo z 0 0 0 0 0 0 0 0 0 0 (-1) 0 0 0 0 0)), (z 37, aI V 4 (upd (upd (upd (upd (fun _ => 0) 0 (-1)) 1 (-1)) 2 (-1)) 3 (-1)))]) ∨ ((¬ p1.toInt64 < 0) ∧ (¬ 3 < p1.toInt64) ∧ (¬ p0.toInt64 < 0) ∧ (¬ 3 < p0.toInt64) ∧ p0 = 3 ∧ r = (-6) ∧ w = [(z 0, .inr (10, mo z 0 0 0 0 0 0 0 0 0 0 (-1) 0 0 0 0 0)), (z 37, aI V 4 (upd (upd (upd (upd (fun _ => 0) 0 (-1)) 1 (-1)) 2 (-1)) 3 (-1)))]))) := by
  refine Ct.of (by decide) (Nat.le_of_ble_eq_true rfl) (fun p e s m below meth c A ls hx hb hr hml hown hlk hnm hg hP hK hD hE hA hS hl => ?_)
  have hl : lv_has ls 6 [(0, .ref (z 0)), (1, .int p0), (2, .int p1)] := hl
  refine lv_aload_n hx hb dX10_judge_0 rfl (lv_at hl 0 rfl) ?_
  refine lv_iconst (v := 0) hx hb dX10_judge_1 (by decide) ?_
  refine va_put (ci := 10) (v := .int 0) (ty := .int) (C := RX10) (T := TX10) (N := 40) hx hb hg inX10 tyX10 tyX10_ok nmX10 hown hK hP hD hS 0 rfl rfl 0 (by decide) (hg _ q_5_224) (fun _ h9 => h9) rfl (by decide +kernel) rfl rfl (Nat.le_of_ble_eq_true rfl) dX10_judge_2 (fun H locs hP hD hS => ?_)
  have hP : va_P V.1 vwCl [(z 0, .inr (10, mo z 0 0 0 0 0 0 0 0 0 0 (-1) 0 0 0 0 0)), (z 37, aI V 4 (upd (upd (upd (upd (fun _ => 0) 0 (-1)) 1 (-1)) 2 (-1)) 3 (-1)))] H := hP
  have hD : va_D A [(z 0, .inr (10, mo z 0 0 0 0 0 0 0 0 0 0 (-1) 0 0 0 0 0)), (z 37, aI V 4 (upd (upd (upd (upd (fun _ => 0) 0 (-1)) 1 (-1)) 2 (-1)) 3 (-1)))] := hD
  refine lv_iload_n hx hb dX10_judge_5 rfl (lv_at hl 2 rfl) ?_
  refine lv_i2l (v := p1.toInt64) hx hb dX10_judge_6 rfl ?_
  refine lv_lconst (v := 0) hx hb dX10_judge_7 (by decide) ?_
  refine lv_ldc2 (v := 3) hx hb hown (hg _ q_7_107) dX10_judge_8 ?_
  refine jnI (wr := [(z 0, .inr (10, mo z 0 0 0 0 0 0 0 0 0 0 (-1) 0 0 0 0 0)), (z 37, aI V 4 (upd (upd (upd (upd (fun _ => 0) 0 (-1)) 1 (-1)) 2 (-1)) 3 (-1)))]) (rnS (rest := []) ⟨hx, hb, hml, hown, hg⟩ (c_X10_within_0 l V p1.toInt64 0 3) mt_X10_within q_6_114 ⟨Nat.le_of_ble_eq_true rfl, Nat.le_of_ble_eq_true rfl⟩ hK hP hD hS hA hE [] rfl rfl rfl hl.1 rfl (Nat.le_of_ble_eq_true rfl) dX10_judge_11 ⟨Nat.le_of_ble_eq_true rfl, Nat.le_of_ble_eq_true rfl⟩) hP hD hS hA [] [0, 1] rfl rfl rfl (by decide) (fun r_1 w H locs hw hP hD hS => ?_)
  rcases hw with ⟨c_2, rfl, rfl⟩ | ⟨c_3, c_4, rfl, rfl⟩ | ⟨c_5, c_6, rfl, rfl⟩
  · have hP : va_P V.1 vwCl [(z 0, .inr (10, mo z 0 0 0 0 0 0 0 0 0 0 (-1) 0 0 0 0 0)), (z 37, aI V 4 (upd (upd (upd (upd (fun _ => 0) 0 (-1)) 1 (-1)) 2 (-1)) 3 (-1)))] H := hP
    have hD : va_D A [(z 0, .inr (10, mo z 0 0 0 0 0 0 0 0 0 0 (-1) 0 0 0 0 0)), (z 37, aI V 4 (upd (upd (upd (upd (fun _ => 0) 0 (-1)) 1 (-1)) 2 (-1)) 3 (-1)))] := hD
    refine lv_if_ne (tgt := 20) hx hb dX10_judge_14 (by decide) (fun c_7 => absurd c_7 (by decide)) (fun _ => ?_)
    refine lv_bipush (v := (-2)) hx hb dX10_judge_17 (by decide) ?_
    exact fiI hx hb hr hlk hK hP hD hS dX10_judge_19 (Nat.le_of_ble_eq_true rfl) (Nat.le_of_ble_eq_true rfl) (Or.inl ⟨c_2, rfl, rfl⟩)
  · have hP : va_P V.1 vwCl [(z 0, .inr (10, mo z 0 0 0 0 0 0 0 0 0 0 (-1) 0 0 0 0 0)), (z 37, aI V 4 (upd (upd (upd (upd (fun _ => 0) 0 (-1)) 1 (-1)) 2 (-1)) 3 (-1)))] H := hP
    have hD : va_D A [(z 0, .inr (10, mo z 0 0 0 0 0 0 0 0 0 0 (-1) 0 0 0 0 0)), (z 37, aI V 4 (upd (upd (upd (upd (fun _ => 0) 0 (-1)) 1 (-1)) 2 (-1)) 3 (-1)))] := hD
    refine lv_if_ne (tgt := 20) hx hb dX10_judge_14 (by decide) (fun c_8 => absurd c_8 (by decide)) (fun _ => ?_)
    refine lv_bipush (v := (-2)) hx hb dX10_judge_17 (by decide) ?_
    exact fiI hx hb hr hlk hK hP hD hS dX10_judge_19 (Nat.le_of_ble_eq_true rfl) (Nat.le_of_ble_eq_true rfl) (Or.inr (Or.inl ⟨c_3, c_4, rfl, rfl⟩))
  · have hP : va_P V.1 vwCl [(z 0, .inr (10, mo z 0 0 0 0 0 0 0 0 0 0 (-1) 0 0 0 0 0)), (z 37, aI V 4 (upd (upd (upd (upd (fun _ => 0) 0 (-1)) 1 (-1)) 2 (-1)) 3 (-1)))] H := hP
    have hD : va_D A [(z 0, .inr (10, mo z 0 0 0 0 0 0 0 0 0 0 (-1) 0 0 0 0 0)), (z 37, aI V 4 (upd (upd (upd (upd (fun _ => 0) 0 (-1)) 1 (-1)) 2 (-1)) 3 (-1)))] := hD
    refine lv_if_ne (tgt := 20) hx hb dX10_judge_14 (by decide) (fun _ => ?_) (fun c_9 => absurd c_9 (by decide))
    refine lv_aload_n hx hb dX10_judge_20 rfl (lv_at hl 0 rfl) ?_
    refine lv_iload_n hx hb dX10_judge_21 rfl (lv_at hl 1 rfl) ?_
    refine jnI (wr := []) (rnV (rest := []) ⟨hx, hb, hml, hown, hg⟩ (c_X10_noTray_0 l V z p0) mt_X10_noTray q_7_108 ⟨Nat.le_of_ble_eq_true rfl, Nat.le_of_ble_eq_true rfl⟩ hK hP hD hS hA hE [0, 1] rfl rfl 0 rfl rfl rfl rfl hl.1 rfl (Nat.le_of_ble_eq_true rfl) dX10_judge_22 ⟨Nat.le_of_ble_eq_true rfl, Nat.le_of_ble_eq_true rfl⟩) hP hD hS hA [0, 1] [] rfl rfl rfl (by decide) (fun r_10 w H locs hw hP hD hS => ?_)
    rcases hw with ⟨c_11, rfl, rfl⟩ | ⟨c_12, c_13, rfl, rfl⟩ | ⟨c_14, c_15, c_16, rfl, rfl⟩ | ⟨c_17, c_18, c_19, rfl, rfl⟩ | ⟨c_20, c_21, c_22, rfl, rfl⟩ | ⟨c_23, c_24, c_25, rfl, rfl⟩
    · have hP : va_P V.1 vwCl [(z 0, .inr (10, mo z 0 0 0 0 0 0 0 0 0 0 (-1) 0 0 0 0 0)), (z 37, aI V 4 (upd (upd (upd (upd (fun _ => 0) 0 (-1)) 1 (-1)) 2 (-1)) 3 (-1)))] H := hP
      have hD : va_D A [(z 0, .inr (10, mo z 0 0 0 0 0 0 0 0 0 0 (-1) 0 0 0 0 0)), (z 37, aI V 4 (upd (upd (upd (upd (fun _ => 0) 0 (-1)) 1 (-1)) 2 (-1)) 3 (-1)))] := hD
      refine lv_istore_n (lv' := [(3, .int (-2)), (0, .ref (z 0)), (1, .int p0), (2, .int p1)]) hx hb dX10_judge_25 rfl hl (by decide) rfl (fun ls hl => ?_)
      refine lv_iload_n hx hb dX10_judge_26 rfl (lv_at hl 0 rfl) ?_
      refine lv_if_eq (tgt := 32) hx hb dX10_judge_27 (by decide) (fun c_26 => absurd c_26 (by decide)) (fun _ => ?_)
      refine lv_iload_n hx hb dX10_judge_30 rfl (lv_at hl 0 rfl) ?_
      exact fiI hx hb hr hlk hK hP hD hS dX10_judge_31 (Nat.le_of_ble_eq_true rfl) (Nat.le_of_ble_eq_true rfl) (Or.inr (Or.inr (Or.inl ⟨c_5, c_6, c_11, rfl, rfl⟩)))
    · have hP : va_P V.1 vwCl [(z 0, .inr (10, mo z 0 0 0 0 0 0 0 0 0 0 (-1) 0 0 0 0 0)), (z 37, aI V 4 (upd (upd (upd (upd (fun _ => 0) 0 (-1)) 1 (-1)) 2 (-1)) 3 (-1)))] H := hP
      have hD : va_D A [(z 0, .inr (10, mo z 0 0 0 0 0 0 0 0 0 0 (-1) 0 0 0 0 0)), (z 37, aI V 4 (upd (upd (upd (upd (fun _ => 0) 0 (-1)) 1 (-1)) 2 (-1)) 3 (-1)))] := hD
      refine lv_istore_n (lv' := [(3, .int (-2)), (0, .ref (z 0)), (1, .int p0), (2, .int p1)]) hx hb dX10_judge_25 rfl hl (by decide) rfl (fun ls hl => ?_)
      refine lv_iload_n hx hb dX10_judge_26 rfl (lv_at hl 0 rfl) ?_
      refine lv_if_eq (tgt := 32) hx hb dX10_judge_27 (by decide) (fun c_27 => absurd c_27 (by decide)) (fun _ => ?_)
      refine lv_iload_n hx hb dX10_judge_30 rfl (lv_at hl 0 rfl) ?_
      exact fiI hx hb hr hlk hK hP hD hS dX10_judge_31 (Nat.le_of_ble_eq_true rfl) (Nat.le_of_ble_eq_true rfl) (Or.inr (Or.inr (Or.inr (Or.inl ⟨c_5, c_6, c_12, c_13, rfl, rfl⟩))))
    · have hP : va_P V.1 vwCl [(z 0, .inr (10, mo z 0 0 0 0 0 0 0 0 0 0 (-1) 0 0 0 0 0)), (z 37, aI V 4 (upd (upd (upd (upd (fun _ => 0) 0 (-1)) 1 (-1)) 2 (-1)) 3 (-1)))] H := hP
      have hD : va_D A [(z 0, .inr (10, mo z 0 0 0 0 0 0 0 0 0 0 (-1) 0 0 0 0 0)), (z 37, aI V 4 (upd (upd (upd (upd (fun _ => 0) 0 (-1)) 1 (-1)) 2 (-1)) 3 (-1)))] := hD
      refine lv_istore_n (lv' := [(3, .int (-6)), (0, .ref (z 0)), (1, .int p0), (2, .int p1)]) hx hb dX10_judge_25 rfl hl (by decide) rfl (fun ls hl => ?_)
      refine lv_iload_n hx hb dX10_judge_26 rfl (lv_at hl 0 rfl) ?_
      refine lv_if_eq (tgt := 32) hx hb dX10_judge_27 (by decide) (fun c_28 => absurd c_28 (by decide)) (fun _ => ?_)
      refine lv_iload_n hx hb dX10_judge_30 rfl (lv_at hl 0 rfl) ?_
      exact fiI hx hb hr hlk hK hP hD hS dX10_judge_31 (Nat.le_of_ble_eq_true rfl) (Nat.le_of_ble_eq_true rfl) (Or.inr (Or.inr (Or.inr (Or.inr (Or.inl ⟨c_5, c_6, c_14, c_15, c_16, rfl, rfl⟩)))))
    · have hP : va_P V.1 vwCl [(z 0, .inr (10, mo z 0 0 0 0 0 0 0 0 0 0 (-1) 0 0 0 0 0)), (z 37, aI V 4 (upd (upd (upd (upd (fun _ => 0) 0 (-1)) 1 (-1)) 2 (-1)) 3 (-1)))] H := hP
      have hD : va_D A [(z 0, .inr (10, mo z 0 0 0 0 0 0 0 0 0 0 (-1) 0 0 0 0 0)), (z 37, aI V 4 (upd (upd (upd (upd (fun _ => 0) 0 (-1)) 1 (-1)) 2 (-1)) 3 (-1)))] := hD
      refine lv_istore_n (lv' := [(3, .int (-6)), (0, .ref (z 0)), (1, .int p0), (2, .int p1)]) hx hb dX10_judge_25 rfl hl (by decide) rfl (fun ls hl => ?_)
      refine lv_iload_n hx hb dX10_judge_26 rfl (lv_at hl 0 rfl) ?_
      refine lv_if_eq (tgt := 32) hx hb dX10_judge_27 (by decide) (fun c_29 => absurd c_29 (by decide)) (fun _ => ?_)
      refine lv_iload_n hx hb dX10_judge_30 rfl (lv_at hl 0 rfl) ?_
      exact fiI hx hb hr hlk hK hP hD hS dX10_judge_31 (Nat.le_of_ble_eq_true rfl) (Nat.le_of_ble_eq_true rfl) (Or.inr (Or.inr (Or.inr (Or.inr (Or.inr (Or.inl ⟨c_5, c_6, c_17, c_18, c_19, rfl, rfl⟩))))))
    · have hP : va_P V.1 vwCl [(z 0, .inr (10, mo z 0 0 0 0 0 0 0 0 0 0 (-1) 0 0 0 0 0)), (z 37, aI V 4 (upd (upd (upd (upd (fun _ => 0) 0 (-1)) 1 (-1)) 2 (-1)) 3 (-1)))] H := hP
      have hD : va_D A [(z 0, .inr (10, mo z 0 0 0 0 0 0 0 0 0 0 (-1) 0 0 0 0 0)), (z 37, aI V 4 (upd (upd (upd (upd (fun _ => 0) 0 (-1)) 1 (-1)) 2 (-1)) 3 (-1)))] := hD
      refine lv_istore_n (lv' := [(3, .int (-6)), (0, .ref (z 0)), (1, .int p0), (2, .int p1)]) hx hb dX10_judge_25 rfl hl (by decide) rfl (fun ls hl => ?_)
      refine lv_iload_n hx hb dX10_judge_26 rfl (lv_at hl 0 rfl) ?_
      refine lv_if_eq (tgt := 32) hx hb dX10_judge_27 (by decide) (fun c_30 => absurd c_30 (by decide)) (fun _ => ?_)
      refine lv_iload_n hx hb dX10_judge_30 rfl (lv_at hl 0 rfl) ?_
      exact fiI hx hb hr hlk hK hP hD hS dX10_judge_31 (Nat.le_of_ble_eq_true rfl) (Nat.le_of_ble_eq_true rfl) (Or.inr (Or.inr (Or.inr (Or.inr (Or.inr (Or.inr (Or.inl ⟨c_5, c_6, c_20, c_21, c_22, rfl, rfl⟩)))))))
    · have hP : va_P V.1 vwCl [(z 0, .inr (10, mo z 0 0 0 0 0 0 0 0 0 0 (-1) 0 0 0 0 0)), (z 37, aI V 4 (upd (upd (upd (upd (fun _ => 0) 0 (-1)) 1 (-1)) 2 (-1)) 3 (-1)))] H := hP
      have hD : va_D A [(z 0, .inr (10, mo z 0 0 0 0 0 0 0 0 0 0 (-1) 0 0 0 0 0)), (z 37, aI V 4 (upd (upd (upd (upd (fun _ => 0) 0 (-1)) 1 (-1)) 2 (-1)) 3 (-1)))] := hD
      refine lv_istore_n (lv' := [(3, .int (-6)), (0, .ref (z 0)), (1, .int p0), (2, .int p1)]) hx hb dX10_judge_25 rfl hl (by decide) rfl (fun ls hl => ?_)
      refine lv_iload_n hx hb dX10_judge_26 rfl (lv_at hl 0 rfl) ?_
      refine lv_if_eq (tgt := 32) hx hb dX10_judge_27 (by decide) (fun c_31 => absurd c_31 (by decide)) (fun _ => ?_)
      refine lv_iload_n hx hb dX10_judge_30 rfl (lv_at hl 0 rfl) ?_
      exact fiI hx hb hr hlk hK hP hD hS dX10_judge_31 (Nat.le_of_ble_eq_true rfl) (Nat.le_of_ble_eq_true rfl) (Or.inr (Or.inr (Or.inr (Or.inr (Or.inr (Or.inr (Or.inr (⟨c_5, c_6, c_23, c_24, c_25, rfl, rfl⟩))))))))
set_option maxHeartbeats 4000000 in
set_option maxRecDepth 100000 in
theorem c_X10_noHigh_0 (l : Launch) (V : GV) (z : Nat → Nat) (p0 : Int32) (p1 : Int32) : Ct l V yX10_noHigh (.code yX10_noHigh cX10_noHigh 3 (some .int)) 3 [.ref (z 0), .int p0, .int p1] [(z 0, .inr (10, mo z 0 0 0 0 0 0 0 0 0 0 (-1) 0 0 0 0 0)), (z 1, aI V 3075 (fun _ => 0))] 0 0 (QI V (fun (r : Int32) (w : va_W) => (r = (-2) ∧ w = [(z 0, .inr (10, mo z 0 0 0 0 0 0 0 0 0 0 (-1) 0 0 0 0 0)), (z 1, aI V 3075 (fun _ => 0))]))) := by
  refine Ct.of (by decide) (Nat.le_of_ble_eq_true rfl) (fun p e s m below meth c A ls hx hb hr hml hown hlk hnm hg hP hK hD hE hA hS hl => ?_)
  have hl : lv_has ls 3 [(0, .ref (z 0)), (1, .int p0), (2, .int p1)] := hl
  refine lv_aload_n hx hb dX10_noHigh_0 rfl (lv_at hl 0 rfl) ?_
  refine lv_iload_n hx hb dX10_noHigh_1 rfl (lv_at hl 1 rfl) ?_
  refine lv_i2l (v := p0.toInt64) hx hb dX10_noHigh_2 rfl ?_
  refine jnI (wr := []) (rnV (rest := []) ⟨hx, hb, hml, hown, hg⟩ (c_X10_isHill_0 l V z p0.toInt64) mt_X10_isHill q_6_235 ⟨Nat.le_of_ble_eq_true rfl, Nat.le_of_ble_eq_true rfl⟩ hK hP hD hS hA hE [0, 1] rfl rfl 0 rfl rfl rfl rfl hl.1 rfl (Nat.le_of_ble_eq_true rfl) dX10_noHigh_3 ⟨Nat.le_of_ble_eq_true rfl, Nat.le_of_ble_eq_true rfl⟩) hP hD hS hA [0, 1] [] rfl rfl rfl (by decide) (fun r_1 w H locs hw hP hD hS => ?_)
  obtain ⟨rfl, rfl⟩ := hw
  have hP : va_P V.1 vwCl [(z 0, .inr (10, mo z 0 0 0 0 0 0 0 0 0 0 (-1) 0 0 0 0 0)), (z 1, aI V 3075 (fun _ => 0))] H := hP
  have hD : va_D A [(z 0, .inr (10, mo z 0 0 0 0 0 0 0 0 0 0 (-1) 0 0 0 0 0)), (z 1, aI V 3075 (fun _ => 0))] := hD
  refine lv_if_ne (tgt := 14) hx hb dX10_noHigh_6 (by decide) (fun c_2 => absurd c_2 (by decide)) (fun _ => ?_)
  refine lv_bipush (v := (-2)) hx hb dX10_noHigh_9 (by decide) ?_
  refine lv_goto (tgt := 27) hx hb dX10_noHigh_11 (by decide) ?_
  exact fiI hx hb hr hlk hK hP hD hS dX10_noHigh_27 (Nat.le_of_ble_eq_true rfl) (Nat.le_of_ble_eq_true rfl) (⟨rfl, rfl⟩)
set_option maxHeartbeats 4000000 in
set_option maxRecDepth 100000 in
theorem c_X10_soonest_0 (l : Launch) (V : GV) (z : Nat → Nat) (p0 : Int32) (p1 : Int32) : Ct l V yX10_soonest (.code yX10_soonest cX10_soonest 4 (some .int)) 4 [.ref (z 0), .int p0, .int p1] [(z 0, .inr (10, mo z 0 0 0 0 0 0 0 0 0 0 (-1) 0 0 0 0 0)), (z 1, aI V 3075 (fun _ => 0))] 0 0 (QI V (fun (r : Int32) (w : va_W) => (r = (-2) ∧ w = [(z 0, .inr (10, mo z 0 0 0 0 0 0 0 0 0 0 (-1) 0 0 0 0 0)), (z 1, aI V 3075 (fun _ => 0))]))) := by
  refine Ct.of (by decide) (Nat.le_of_ble_eq_true rfl) (fun p e s m below meth c A ls hx hb hr hml hown hlk hnm hg hP hK hD hE hA hS hl => ?_)
  have hl : lv_has ls 4 [(0, .ref (z 0)), (1, .int p0), (2, .int p1)] := hl
  refine lv_aload_n hx hb dX10_soonest_0 rfl (lv_at hl 0 rfl) ?_
  refine lv_iconst (v := 0) hx hb dX10_soonest_1 (by decide) ?_
  refine va_put (ci := 10) (v := .int 0) (ty := .int) (C := RX10) (T := TX10) (N := 40) hx hb hg inX10 tyX10 tyX10_ok nmX10 hown hK hP hD hS 0 rfl rfl 0 (by decide) (hg _ q_5_224) (fun _ h9 => h9) rfl (by decide +kernel) rfl rfl (Nat.le_of_ble_eq_true rfl) dX10_soonest_2 (fun H locs hP hD hS => ?_)
  have hP : va_P V.1 vwCl [(z 0, .inr (10, mo z 0 0 0 0 0 0 0 0 0 0 (-1) 0 0 0 0 0)), (z 1, aI V 3075 (fun _ => 0))] H := hP
  have hD : va_D A [(z 0, .inr (10, mo z 0 0 0 0 0 0 0 0 0 0 (-1) 0 0 0 0 0)), (z 1, aI V 3075 (fun _ => 0))] := hD
  refine lv_aload_n hx hb dX10_soonest_5 rfl (lv_at hl 0 rfl) ?_
  refine lv_iload_n hx hb dX10_soonest_6 rfl (lv_at hl 1 rfl) ?_
  refine lv_iload_n hx hb dX10_soonest_7 rfl (lv_at hl 2 rfl) ?_
  refine jnI (wr := []) (rnV (rest := []) ⟨hx, hb, hml, hown, hg⟩ (c_X10_noHigh_0 l V z p0 p1) mt_X10_noHigh q_7_182 ⟨Nat.le_of_ble_eq_true rfl, Nat.le_of_ble_eq_true rfl⟩ hK hP hD hS hA hE [0, 1] rfl rfl 0 rfl rfl rfl rfl hl.1 rfl (Nat.le_of_ble_eq_true rfl) dX10_soonest_8 ⟨Nat.le_of_ble_eq_true rfl, Nat.le_of_ble_eq_true rfl⟩) hP hD hS hA [0, 1] [] rfl rfl rfl (by decide) (fun r_1 w H locs hw hP hD hS => ?_)
  obtain ⟨rfl, rfl⟩ := hw
  have hP : va_P V.1 vwCl [(z 0, .inr (10, mo z 0 0 0 0 0 0 0 0 0 0 (-1) 0 0 0 0 0)), (z 1, aI V 3075 (fun _ => 0))] H := hP
  have hD : va_D A [(z 0, .inr (10, mo z 0 0 0 0 0 0 0 0 0 0 (-1) 0 0 0 0 0)), (z 1, aI V 3075 (fun _ => 0))] := hD
  refine lv_istore_n (lv' := [(3, .int (-2)), (0, .ref (z 0)), (1, .int p0), (2, .int p1)]) hx hb dX10_soonest_11 rfl hl (by decide) rfl (fun ls hl => ?_)
  refine lv_iload_n hx hb dX10_soonest_12 rfl (lv_at hl 0 rfl) ?_
  refine lv_if_eq (tgt := 20) hx hb dX10_soonest_13 (by decide) (fun c_2 => absurd c_2 (by decide)) (fun _ => ?_)
  refine lv_iload_n hx hb dX10_soonest_16 rfl (lv_at hl 0 rfl) ?_
  refine lv_goto (tgt := 29) hx hb dX10_soonest_17 (by decide) ?_
  exact fiI hx hb hr hlk hK hP hD hS dX10_soonest_29 (Nat.le_of_ble_eq_true rfl) (Nat.le_of_ble_eq_true rfl) (⟨rfl, rfl⟩)
set_option maxHeartbeats 4000000 in
set_option maxRecDepth 100000 in
theorem c_X10_isNight_0 (l : Launch) (V : GV) (z : Nat → Nat) (j0 : Int64) : Ct l V yX10_isNight (.code yX10_isNight cX10_isNight 3 (some .boolean)) 2 [.ref (z 0), .long j0] [(z 0, .inr (10, mo z 0 0 0 0 0 0 0 0 0 0 (-1) 0 0 0 0 0)), (z 1, aI V 3075 (fun _ => 0))] 0 0 (QI V (fun (r : Int32) (w : va_W) => (j0 = 0 ∧ r = 1 ∧ w = [(z 0, .inr (10, mo z 0 0 0 0 0 0 0 0 0 0 (-1) 0 0 0 0 0)), (z 1, aI V 3075 (fun _ => 0))]) ∨ ((¬ j0 = 0) ∧ j0 < 1 ∧ r = 0 ∧ w = [(z 0, .inr (10, mo z 0 0 0 0 0 0 0 0 0 0 (-1) 0 0 0 0 0)), (z 1, aI V 3075 (fun _ => 0))]) ∨ ((¬ j0 = 0) ∧ (¬ j0 < 1) ∧ (-1) < j0 ∧ r = 0 ∧ w = [(z 0, .inr (10, mo z 0 0 0 0 0 0 0 0 0 0 (-1) 0 0 0 0 0)), (z 1, aI V 3075 (fun _ => 0))]))) := by
  refine Ct.of (by decide) (Nat.le_of_ble_eq_true rfl) (fun p e s m below meth c A ls hx hb hr hml hown hlk hnm hg hP hK hD hE hA hS hl => ?_)
  have hl : lv_has ls 3 [(0, .ref (z 0)), (1, .long j0)] := hl
  refine lv_lload_n hx hb dX10_isNight_0 rfl (lv_at hl 1 rfl) ?_
  refine lv_lconst (v := 0) hx hb dX10_isNight_1 (by decide) ?_
  refine W.lcmp hx hb dX10_isNight_2 ?_
  refine lv_if_eq (tgt := 23) hx hb dX10_isNight_3 (by decide) (fun c_1 => ?_) (fun c_1 => ?_)
  · replace c_1 : j0 = 0 := (lg_cmp_eq _ _).mp c_1
    refine lv_iconst (v := 1) hx hb dX10_isNight_23 (by decide) ?_
    refine lv_goto (tgt := 28) hx hb dX10_isNight_24 (by decide) ?_
    exact fiZ rfl hx hb hr hlk hK hP hD hS dX10_isNight_28 (Nat.le_of_ble_eq_true rfl) (Nat.le_of_ble_eq_true rfl) (Or.inl ⟨c_1, rfl, rfl⟩)
  · replace c_1 : ¬ j0 = 0 := fun z => c_1 ((lg_cmp_eq _ _).mpr z)
    refine lv_lload_n hx hb dX10_isNight_6 rfl (lv_at hl 1 rfl) ?_
    refine lv_lconst (v := 1) hx hb dX10_isNight_7 (by decide) ?_
    refine lv_aload_n hx hb dX10_isNight_8 rfl (lv_at hl 0 rfl) ?_
    refine va_get (ci := 10) (v := .ref (z 1)) (C := RX10) (T := TX10) (N := 40) hx hb hg inX10 hown hK hP 0 rfl rfl 1 (by decide) (hg _ q_5_225) (fun _ h9 => h9) rfl dX10_isNight_9 ?_
    refine lv_iconst (v := 1) hx hb dX10_isNight_12 (by decide) ?_
    refine va_iald hx hb hK hP 1 0 rfl rfl (vin (by decide +kernel)) dX10_isNight_13 ?_
    refine tpi (y := 0) (rfl) ?_
    refine lv_iconst (v := 1) hx hb dX10_isNight_14 (by decide) ?_
    refine lv_isub hx hb dX10_isNight_15 ?_
    refine tpi (y := (-1)) (by decide +kernel) ?_
    refine lv_i2l (v := (-1)) hx hb dX10_isNight_16 (by decide +kernel) ?_
    refine jnI (wr := [(z 0, .inr (10, mo z 0 0 0 0 0 0 0 0 0 0 (-1) 0 0 0 0 0)), (z 1, aI V 3075 (fun _ => 0))]) (rnS (rest := []) ⟨hx, hb, hml, hown, hg⟩ (c_X10_within_0 l V j0 1 ((-1))) mt_X10_within q_6_114 ⟨Nat.le_of_ble_eq_true rfl, Nat.le_of_ble_eq_true rfl⟩ hK hP hD hS hA hE [] rfl rfl rfl hl.1 rfl (Nat.le_of_ble_eq_true rfl) dX10_isNight_17 ⟨Nat.le_of_ble_eq_true rfl, Nat.le_of_ble_eq_true rfl⟩) hP hD hS hA [] [0, 1] rfl rfl rfl (by decide) (fun r_2 w H locs hw hP hD hS => ?_)
    rcases hw with ⟨c_3, rfl, rfl⟩ | ⟨c_4, c_5, rfl, rfl⟩ | ⟨c_6, c_7, rfl, rfl⟩
    · have hP : va_P V.1 vwCl [(z 0, .inr (10, mo z 0 0 0 0 0 0 0 0 0 0 (-1) 0 0 0 0 0)), (z 1, aI V 3075 (fun _ => 0))] H := hP
      have hD : va_D A [(z 0, .inr (10, mo z 0 0 0 0 0 0 0 0 0 0 (-1) 0 0 0 0 0)), (z 1, aI V 3075 (fun _ => 0))] := hD
      refine lv_if_eq (tgt := 27) hx hb dX10_isNight_20 (by decide) (fun _ => ?_) (fun c_8 => absurd c_8 (by decide))
      refine lv_iconst (v := 0) hx hb dX10_isNight_27 (by decide) ?_
      exact fiZ rfl hx hb hr hlk hK hP hD hS dX10_isNight_28 (Nat.le_of_ble_eq_true rfl) (Nat.le_of_ble_eq_true rfl) (Or.inr (Or.inl ⟨c_1, c_3, rfl, rfl⟩))
    · have hP : va_P V.1 vwCl [(z 0, .inr (10, mo z 0 0 0 0 0 0 0 0 0 0 (-1) 0 0 0 0 0)), (z 1, aI V 3075 (fun _ => 0))] H := hP
      have hD : va_D A [(z 0, .inr (10, mo z 0 0 0 0 0 0 0 0 0 0 (-1) 0 0 0 0 0)), (z 1, aI V 3075 (fun _ => 0))] := hD
      refine lv_if_eq (tgt := 27) hx hb dX10_isNight_20 (by decide) (fun _ => ?_) (fun c_9 => absurd c_9 (by decide))
      refine lv_iconst (v := 0) hx hb dX10_isNight_27 (by decide) ?_
      exact fiZ rfl hx hb hr hlk hK hP hD hS dX10_isNight_28 (Nat.le_of_ble_eq_true rfl) (Nat.le_of_ble_eq_true rfl) (Or.inr (Or.inr (⟨c_1, c_4, c_5, rfl, rfl⟩)))
    · exact False.elim (by simp only [tI_lt, tI_le, tI_eq, tL_lt, tL_le, tL_eq, tWx, (by decide : ((-1) : Int64).toInt = -1), (by decide : (0 : Int64).toInt = 0), (by decide : (1 : Int64).toInt = 1)] at c_1 c_6 c_7; omega)
set_option maxHeartbeats 4000000 in
set_option maxRecDepth 100000 in
theorem c_X10_stores_0 (l : Launch) (V : GV) (z : Nat → Nat) : Ct l V yX10_stores (.code yX10_stores cX10_stores 2 none) 1 [.ref (z 0)] [(z 17, aI V 7 (fun _ => 0)), (z 0, .inr (10, mo z 0 0 0 0 0 0 0 0 0 0 (-1) 0 0 0 0 0)), (z 1, aI V 3075 (fun _ => 0))] 0 0 (QV V (fun (w : va_W) => (w = [(z 17, aI V 7 (fun _ => 0)), (z 0, .inr (10, mo z 0 0 0 0 0 0 0 0 0 0 (-1) 0 0 0 0 0)), (z 1, aI V 3075 (fun _ => 0))]))) := by
  refine Ct.of (by decide) (Nat.le_of_ble_eq_true rfl) (fun p e s m below meth c A ls hx hb hr hml hown hlk hnm hg hP hK hD hE hA hS hl => ?_)
  have hl : lv_has ls 2 [(0, .ref (z 0))] := hl
  refine lv_iconst (v := 0) hx hb dX10_stores_0 (by decide) ?_
  refine lv_istore_n (lv' := [(1, .int 0), (0, .ref (z 0))]) hx hb dX10_stores_1 rfl hl (by decide) rfl (fun ls hl => ?_)
  refine lv_iload_n hx hb dX10_stores_2 rfl (lv_at hl 0 rfl) ?_
  refine lv_bipush (v := 7) hx hb dX10_stores_3 (by decide) ?_
  refine lv_icmp_ge (tgt := 29) hx hb dX10_stores_5 (by decide) (fun c_1 => absurd c_1 (by decide)) (fun _ => ?_)
  refine lv_aload_n hx hb dX10_stores_8 rfl (lv_at hl 1 rfl) ?_
  refine va_get (ci := 10) (v := .ref (z 17)) (C := RX10) (T := TX10) (N := 40) hx hb hg inX10 hown hK hP 1 rfl rfl 17 (by decide) (hg _ q_6_1) (fun _ h9 => h9) rfl dX10_stores_9 ?_
  refine lv_iload_n hx hb dX10_stores_12 rfl (lv_at hl 0 rfl) ?_
  refine lv_aload_n hx hb dX10_stores_13 rfl (lv_at hl 1 rfl) ?_
  refine va_get (ci := 10) (v := .ref (z 1)) (C := RX10) (T := TX10) (N := 40) hx hb hg inX10 hown hK hP 1 rfl rfl 1 (by decide) (hg _ q_5_225) (fun _ h9 => h9) rfl dX10_stores_14 ?_
  refine lv_bipush (v := 46) hx hb dX10_stores_17 (by decide) ?_
  refine lv_iload_n hx hb dX10_stores_19 rfl (lv_at hl 0 rfl) ?_
  refine lv_iadd hx hb dX10_stores_20 ?_
  refine tpi (y := 46) (by decide +kernel) ?_
  refine va_iald hx hb hK hP 2 0 rfl rfl (vin (by decide +kernel)) dX10_stores_21 ?_
  refine tpi (y := 0) (rfl) ?_
  refine va_iast hx hb hK hP hD hS 0 0 rfl rfl (vin (by decide +kernel)) dX10_stores_22 (fun H locs hP hD hS => ?_)
  have hP : va_P V.1 vwCl [(z 17, aI V 7 (upd (fun _ => 0) 0 0)), (z 0, .inr (10, mo z 0 0 0 0 0 0 0 0 0 0 (-1) 0 0 0 0 0)), (z 1, aI V 3075 (fun _ => 0))] H := hP
  have hD : va_D A [(z 17, aI V 7 (upd (fun _ => 0) 0 0)), (z 0, .inr (10, mo z 0 0 0 0 0 0 0 0 0 0 (-1) 0 0 0 0 0)), (z 1, aI V 3075 (fun _ => 0))] := hD
  have hP : va_P V.1 vwCl [(z 17, aI V 7 (fun _ => 0)), (z 0, .inr (10, mo z 0 0 0 0 0 0 0 0 0 0 (-1) 0 0 0 0 0)), (z 1, aI V 3075 (fun _ => 0))] H := by rw [upd0] at hP; exact hP
  have hD : va_D A [(z 17, aI V 7 (fun _ => 0)), (z 0, .inr (10, mo z 0 0 0 0 0 0 0 0 0 0 (-1) 0 0 0 0 0)), (z 1, aI V 3075 (fun _ => 0))] := by rw [upd0] at hD; exact hD
  refine lv_iinc (v := 1) (lv' := [(1, .int 1), (0, .ref (z 0))]) hx hb dX10_stores_23 hl (k := 0) rfl (by decide +kernel) (by decide) rfl (fun ls hl => ?_)
  refine lv_goto (tgt := 2) hx hb dX10_stores_26 (by decide) ?_
  refine lv_iload_n hx hb dX10_stores_2 rfl (lv_at hl 0 rfl) ?_
  refine lv_bipush (v := 7) hx hb dX10_stores_3 (by decide) ?_
  refine lv_icmp_ge (tgt := 29) hx hb dX10_stores_5 (by decide) (fun c_2 => absurd c_2 (by decide)) (fun _ => ?_)
  refine lv_aload_n hx hb dX10_stores_8 rfl (lv_at hl 1 rfl) ?_
  refine va_get (ci := 10) (v := .ref (z 17)) (C := RX10) (T := TX10) (N := 40) hx hb hg inX10 hown hK hP 1 rfl rfl 17 (by decide) (hg _ q_6_1) (fun _ h9 => h9) rfl dX10_stores_9 ?_
  refine lv_iload_n hx hb dX10_stores_12 rfl (lv_at hl 0 rfl) ?_
  refine lv_aload_n hx hb dX10_stores_13 rfl (lv_at hl 1 rfl) ?_
  refine va_get (ci := 10) (v := .ref (z 1)) (C := RX10) (T := TX10) (N := 40) hx hb hg inX10 hown hK hP 1 rfl rfl 1 (by decide) (hg _ q_5_225) (fun _ h9 => h9) rfl dX10_stores_14 ?_
  refine lv_bipush (v := 46) hx hb dX10_stores_17 (by decide) ?_
  refine lv_iload_n hx hb dX10_stores_19 rfl (lv_at hl 0 rfl) ?_
  refine lv_iadd hx hb dX10_stores_20 ?_
  refine tpi (y := 47) (by decide +kernel) ?_
  refine va_iald hx hb hK hP 2 0 rfl rfl (vin (by decide +kernel)) dX10_stores_21 ?_
  refine tpi (y := 0) (rfl) ?_
  refine va_iast hx hb hK hP hD hS 0 0 rfl rfl (vin (by decide +kernel)) dX10_stores_22 (fun H locs hP hD hS => ?_)
  have hP : va_P V.1 vwCl [(z 17, aI V 7 (upd (fun _ => 0) 1 0)), (z 0, .inr (10, mo z 0 0 0 0 0 0 0 0 0 0 (-1) 0 0 0 0 0)), (z 1, aI V 3075 (fun _ => 0))] H := hP
  have hD : va_D A [(z 17, aI V 7 (upd (fun _ => 0) 1 0)), (z 0, .inr (10, mo z 0 0 0 0 0 0 0 0 0 0 (-1) 0 0 0 0 0)), (z 1, aI V 3075 (fun _ => 0))] := hD
  have hP : va_P V.1 vwCl [(z 17, aI V 7 (fun _ => 0)), (z 0, .inr (10, mo z 0 0 0 0 0 0 0 0 0 0 (-1) 0 0 0 0 0)), (z 1, aI V 3075 (fun _ => 0))] H := by rw [upd0] at hP; exact hP
  have hD : va_D A [(z 17, aI V 7 (fun _ => 0)), (z 0, .inr (10, mo z 0 0 0 0 0 0 0 0 0 0 (-1) 0 0 0 0 0)), (z 1, aI V 3075 (fun _ => 0))] := by rw [upd0] at hD; exact hD
  refine lv_iinc (v := 2) (lv' := [(1, .int 2), (0, .ref (z 0))]) hx hb dX10_stores_23 hl (k := 0) rfl (by decide +kernel) (by decide) rfl (fun ls hl => ?_)
  refine lv_goto (tgt := 2) hx hb dX10_stores_26 (by decide) ?_
  refine lv_iload_n hx hb dX10_stores_2 rfl (lv_at hl 0 rfl) ?_
  refine lv_bipush (v := 7) hx hb dX10_stores_3 (by decide) ?_
  refine lv_icmp_ge (tgt := 29) hx hb dX10_stores_5 (by decide) (fun c_3 => absurd c_3 (by decide)) (fun _ => ?_)
  refine lv_aload_n hx hb dX10_stores_8 rfl (lv_at hl 1 rfl) ?_
  refine va_get (ci := 10) (v := .ref (z 17)) (C := RX10) (T := TX10) (N := 40) hx hb hg inX10 hown hK hP 1 rfl rfl 17 (by decide) (hg _ q_6_1) (fun _ h9 => h9) rfl dX10_stores_9 ?_
  refine lv_iload_n hx hb dX10_stores_12 rfl (lv_at hl 0 rfl) ?_
  refine lv_aload_n hx hb dX10_stores_13 rfl (lv_at hl 1 rfl) ?_
  refine va_get (ci := 10) (v := .ref (z 1)) (C := RX10) (T := TX10) (N := 40) hx hb hg inX10 hown hK hP 1 rfl rfl 1 (by decide) (hg _ q_5_225) (fun _ h9 => h9) rfl dX10_stores_14 ?_
  refine lv_bipush (v := 46) hx hb dX10_stores_17 (by decide) ?_
  refine lv_iload_n hx hb dX10_stores_19 rfl (lv_at hl 0 rfl) ?_
  refine lv_iadd hx hb dX10_stores_20 ?_
  refine tpi (y := 48) (by decide +kernel) ?_
  refine va_iald hx hb hK hP 2 0 rfl rfl (vin (by decide +kernel)) dX10_stores_21 ?_
  refine tpi (y := 0) (rfl) ?_
  refine va_iast hx hb hK hP hD hS 0 0 rfl rfl (vin (by decide +kernel)) dX10_stores_22 (fun H locs hP hD hS => ?_)
  have hP : va_P V.1 vwCl [(z 17, aI V 7 (upd (fun _ => 0) 2 0)), (z 0, .inr (10, mo z 0 0 0 0 0 0 0 0 0 0 (-1) 0 0 0 0 0)), (z 1, aI V 3075 (fun _ => 0))] H := hP
  have hD : va_D A [(z 17, aI V 7 (upd (fun _ => 0) 2 0)), (z 0, .inr (10, mo z 0 0 0 0 0 0 0 0 0 0 (-1) 0 0 0 0 0)), (z 1, aI V 3075 (fun _ => 0))] := hD
  have hP : va_P V.1 vwCl [(z 17, aI V 7 (fun _ => 0)), (z 0, .inr (10, mo z 0 0 0 0 0 0 0 0 0 0 (-1) 0 0 0 0 0)), (z 1, aI V 3075 (fun _ => 0))] H := by rw [upd0] at hP; exact hP
  have hD : va_D A [(z 17, aI V 7 (fun _ => 0)), (z 0, .inr (10, mo z 0 0 0 0 0 0 0 0 0 0 (-1) 0 0 0 0 0)), (z 1, aI V 3075 (fun _ => 0))] := by rw [upd0] at hD; exact hD
  refine lv_iinc (v := 3) (lv' := [(1, .int 3), (0, .ref (z 0))]) hx hb dX10_stores_23 hl (k := 0) rfl (by decide +kernel) (by decide) rfl (fun ls hl => ?_)
  refine lv_goto (tgt := 2) hx hb dX10_stores_26 (by decide) ?_
  refine lv_iload_n hx hb dX10_stores_2 rfl (lv_at hl 0 rfl) ?_
  refine lv_bipush (v := 7) hx hb dX10_stores_3 (by decide) ?_
  refine lv_icmp_ge (tgt := 29) hx hb dX10_stores_5 (by decide) (fun c_4 => absurd c_4 (by decide)) (fun _ => ?_)
  refine lv_aload_n hx hb dX10_stores_8 rfl (lv_at hl 1 rfl) ?_
  refine va_get (ci := 10) (v := .ref (z 17)) (C := RX10) (T := TX10) (N := 40) hx hb hg inX10 hown hK hP 1 rfl rfl 17 (by decide) (hg _ q_6_1) (fun _ h9 => h9) rfl dX10_stores_9 ?_
  refine lv_iload_n hx hb dX10_stores_12 rfl (lv_at hl 0 rfl) ?_
  refine lv_aload_n hx hb dX10_stores_13 rfl (lv_at hl 1 rfl) ?_
  refine va_get (ci := 10) (v := .ref (z 1)) (C := RX10) (T := TX10) (N := 40) hx hb hg inX10 hown hK hP 1 rfl rfl 1 (by decide) (hg _ q_5_225) (fun _ h9 => h9) rfl dX10_stores_14 ?_
  refine lv_bipush (v := 46) hx hb dX10_stores_17 (by decide) ?_
  refine lv_iload_n hx hb dX10_stores_19 rfl (lv_at hl 0 rfl) ?_
  refine lv_iadd hx hb dX10_stores_20 ?_
  refine tpi (y := 49) (by decide +kernel) ?_
  refine va_iald hx hb hK hP 2 0 rfl rfl (vin (by decide +kernel)) dX10_stores_21 ?_
  refine tpi (y := 0) (rfl) ?_
  refine va_iast hx hb hK hP hD hS 0 0 rfl rfl (vin (by decide +kernel)) dX10_stores_22 (fun H locs hP hD hS => ?_)
  have hP : va_P V.1 vwCl [(z 17, aI V 7 (upd (fun _ => 0) 3 0)), (z 0, .inr (10, mo z 0 0 0 0 0 0 0 0 0 0 (-1) 0 0 0 0 0)), (z 1, aI V 3075 (fun _ => 0))] H := hP
  have hD : va_D A [(z 17, aI V 7 (upd (fun _ => 0) 3 0)), (z 0, .inr (10, mo z 0 0 0 0 0 0 0 0 0 0 (-1) 0 0 0 0 0)), (z 1, aI V 3075 (fun _ => 0))] := hD
  have hP : va_P V.1 vwCl [(z 17, aI V 7 (fun _ => 0)), (z 0, .inr (10, mo z 0 0 0 0 0 0 0 0 0 0 (-1) 0 0 0 0 0)), (z 1, aI V 3075 (fun _ => 0))] H := by rw [upd0] at hP; exact hP
  have hD : va_D A [(z 17, aI V 7 (fun _ => 0)), (z 0, .inr (10, mo z 0 0 0 0 0 0 0 0 0 0 (-1) 0 0 0 0 0)), (z 1, aI V 3075 (fun _ => 0))] := by rw [upd0] at hD; exact hD
  refine lv_iinc (v := 4) (lv' := [(1, .int 4), (0, .ref (z 0))]) hx hb dX10_stores_23 hl (k := 0) rfl (by decide +kernel) (by decide) rfl (fun ls hl => ?_)
  refine lv_goto (tgt := 2) hx hb dX10_stores_26 (by decide) ?_
  refine lv_iload_n hx hb dX10_stores_2 rfl (lv_at hl 0 rfl) ?_
  refine lv_bipush (v := 7) hx hb dX10_stores_3 (by decide) ?_
  refine lv_icmp_ge (tgt := 29) hx hb dX10_stores_5 (by decide) (fun c_5 => absurd c_5 (by decide)) (fun _ => ?_)
  refine lv_aload_n hx hb dX10_stores_8 rfl (lv_at hl 1 rfl) ?_
  refine va_get (ci := 10) (v := .ref (z 17)) (C := RX10) (T := TX10) (N := 40) hx hb hg inX10 hown hK hP 1 rfl rfl 17 (by decide) (hg _ q_6_1) (fun _ h9 => h9) rfl dX10_stores_9 ?_
  refine lv_iload_n hx hb dX10_stores_12 rfl (lv_at hl 0 rfl) ?_
  refine lv_aload_n hx hb dX10_stores_13 rfl (lv_at hl 1 rfl) ?_
  refine va_get (ci := 10) (v := .ref (z 1)) (C := RX10) (T := TX10) (N := 40) hx hb hg inX10 hown hK hP 1 rfl rfl 1 (by decide) (hg _ q_5_225) (fun _ h9 => h9) rfl dX10_stores_14 ?_
  refine lv_bipush (v := 46) hx hb dX10_stores_17 (by decide) ?_
  refine lv_iload_n hx hb dX10_stores_19 rfl (lv_at hl 0 rfl) ?_
  refine lv_iadd hx hb dX10_stores_20 ?_
  refine tpi (y := 50) (by decide +kernel) ?_
  refine va_iald hx hb hK hP 2 0 rfl rfl (vin (by decide +kernel)) dX10_stores_21 ?_
  refine tpi (y := 0) (rfl) ?_
  refine va_iast hx hb hK hP hD hS 0 0 rfl rfl (vin (by decide +kernel)) dX10_stores_22 (fun H locs hP hD hS => ?_)
  have hP : va_P V.1 vwCl [(z 17, aI V 7 (upd (fun _ => 0) 4 0)), (z 0, .inr (10, mo z 0 0 0 0 0 0 0 0 0 0 (-1) 0 0 0 0 0)), (z 1, aI V 3075 (fun _ => 0))] H := hP
  have hD : va_D A [(z 17, aI V 7 (upd (fun _ => 0) 4 0)), (z 0, .inr (10, mo z 0 0 0 0 0 0 0 0 0 0 (-1) 0 0 0 0 0)), (z 1, aI V 3075 (fun _ => 0))] := hD
  have hP : va_P V.1 vwCl [(z 17, aI V 7 (fun _ => 0)), (z 0, .inr (10, mo z 0 0 0 0 0 0 0 0 0 0 (-1) 0 0 0 0 0)), (z 1, aI V 3075 (fun _ => 0))] H := by rw [upd0] at hP; exact hP
  have hD : va_D A [(z 17, aI V 7 (fun _ => 0)), (z 0, .inr (10, mo z 0 0 0 0 0 0 0 0 0 0 (-1) 0 0 0 0 0)), (z 1, aI V 3075 (fun _ => 0))] := by rw [upd0] at hD; exact hD
  refine lv_iinc (v := 5) (lv' := [(1, .int 5), (0, .ref (z 0))]) hx hb dX10_stores_23 hl (k := 0) rfl (by decide +kernel) (by decide) rfl (fun ls hl => ?_)
  refine lv_goto (tgt := 2) hx hb dX10_stores_26 (by decide) ?_
  refine lv_iload_n hx hb dX10_stores_2 rfl (lv_at hl 0 rfl) ?_
  refine lv_bipush (v := 7) hx hb dX10_stores_3 (by decide) ?_
  refine lv_icmp_ge (tgt := 29) hx hb dX10_stores_5 (by decide) (fun c_6 => absurd c_6 (by decide)) (fun _ => ?_)
  refine lv_aload_n hx hb dX10_stores_8 rfl (lv_at hl 1 rfl) ?_
  refine va_get (ci := 10) (v := .ref (z 17)) (C := RX10) (T := TX10) (N := 40) hx hb hg inX10 hown hK hP 1 rfl rfl 17 (by decide) (hg _ q_6_1) (fun _ h9 => h9) rfl dX10_stores_9 ?_
  refine lv_iload_n hx hb dX10_stores_12 rfl (lv_at hl 0 rfl) ?_
  refine lv_aload_n hx hb dX10_stores_13 rfl (lv_at hl 1 rfl) ?_
  refine va_get (ci := 10) (v := .ref (z 1)) (C := RX10) (T := TX10) (N := 40) hx hb hg inX10 hown hK hP 1 rfl rfl 1 (by decide) (hg _ q_5_225) (fun _ h9 => h9) rfl dX10_stores_14 ?_
  refine lv_bipush (v := 46) hx hb dX10_stores_17 (by decide) ?_
  refine lv_iload_n hx hb dX10_stores_19 rfl (lv_at hl 0 rfl) ?_
  refine lv_iadd hx hb dX10_stores_20 ?_
  refine tpi (y := 51) (by decide +kernel) ?_
  refine va_iald hx hb hK hP 2 0 rfl rfl (vin (by decide +kernel)) dX10_stores_21 ?_
  refine tpi (y := 0) (rfl) ?_
  refine va_iast hx hb hK hP hD hS 0 0 rfl rfl (vin (by decide +kernel)) dX10_stores_22 (fun H locs hP hD hS => ?_)
  have hP : va_P V.1 vwCl [(z 17, aI V 7 (upd (fun _ => 0) 5 0)), (z 0, .inr (10, mo z 0 0 0 0 0 0 0 0 0 0 (-1) 0 0 0 0 0)), (z 1, aI V 3075 (fun _ => 0))] H := hP
  have hD : va_D A [(z 17, aI V 7 (upd (fun _ => 0) 5 0)), (z 0, .inr (10, mo z 0 0 0 0 0 0 0 0 0 0 (-1) 0 0 0 0 0)), (z 1, aI V 3075 (fun _ => 0))] := hD
  have hP : va_P V.1 vwCl [(z 17, aI V 7 (fun _ => 0)), (z 0, .inr (10, mo z 0 0 0 0 0 0 0 0 0 0 (-1) 0 0 0 0 0)), (z 1, aI V 3075 (fun _ => 0))] H := by rw [upd0] at hP; exact hP
  have hD : va_D A [(z 17, aI V 7 (fun _ => 0)), (z 0, .inr (10, mo z 0 0 0 0 0 0 0 0 0 0 (-1) 0 0 0 0 0)), (z 1, aI V 3075 (fun _ => 0))] := by rw [upd0] at hD; exact hD
  refine lv_iinc (v := 6) (lv' := [(1, .int 6), (0, .ref (z 0))]) hx hb dX10_stores_23 hl (k := 0) rfl (by decide +kernel) (by decide) rfl (fun ls hl => ?_)
  refine lv_goto (tgt := 2) hx hb dX10_stores_26 (by decide) ?_
  refine lv_iload_n hx hb dX10_stores_2 rfl (lv_at hl 0 rfl) ?_
  refine lv_bipush (v := 7) hx hb dX10_stores_3 (by decide) ?_
  refine lv_icmp_ge (tgt := 29) hx hb dX10_stores_5 (by decide) (fun c_7 => absurd c_7 (by decide)) (fun _ => ?_)
  refine lv_aload_n hx hb dX10_stores_8 rfl (lv_at hl 1 rfl) ?_
  refine va_get (ci := 10) (v := .ref (z 17)) (C := RX10) (T := TX10) (N := 40) hx hb hg inX10 hown hK hP 1 rfl rfl 17 (by decide) (hg _ q_6_1) (fun _ h9 => h9) rfl dX10_stores_9 ?_
  refine lv_iload_n hx hb dX10_stores_12 rfl (lv_at hl 0 rfl) ?_
  refine lv_aload_n hx hb dX10_stores_13 rfl (lv_at hl 1 rfl) ?_
  refine va_get (ci := 10) (v := .ref (z 1)) (C := RX10) (T := TX10) (N := 40) hx hb hg inX10 hown hK hP 1 rfl rfl 1 (by decide) (hg _ q_5_225) (fun _ h9 => h9) rfl dX10_stores_14 ?_
  refine lv_bipush (v := 46) hx hb dX10_stores_17 (by decide) ?_
  refine lv_iload_n hx hb dX10_stores_19 rfl (lv_at hl 0 rfl) ?_
  refine lv_iadd hx hb dX10_stores_20 ?_
  refine tpi (y := 52) (by decide +kernel) ?_
  refine va_iald hx hb hK hP 2 0 rfl rfl (vin (by decide +kernel)) dX10_stores_21 ?_
  refine tpi (y := 0) (rfl) ?_
  refine va_iast hx hb hK hP hD hS 0 0 rfl rfl (vin (by decide +kernel)) dX10_stores_22 (fun H locs hP hD hS => ?_)
  have hP : va_P V.1 vwCl [(z 17, aI V 7 (upd (fun _ => 0) 6 0)), (z 0, .inr (10, mo z 0 0 0 0 0 0 0 0 0 0 (-1) 0 0 0 0 0)), (z 1, aI V 3075 (fun _ => 0))] H := hP
  have hD : va_D A [(z 17, aI V 7 (upd (fun _ => 0) 6 0)), (z 0, .inr (10, mo z 0 0 0 0 0 0 0 0 0 0 (-1) 0 0 0 0 0)), (z 1, aI V 3075 (fun _ => 0))] := hD
  have hP : va_P V.1 vwCl [(z 17, aI V 7 (fun _ => 0)), (z 0, .inr (10, mo z 0 0 0 0 0 0 0 0 0 0 (-1) 0 0 0 0 0)), (z 1, aI V 3075 (fun _ => 0))] H := by rw [upd0] at hP; exact hP
  have hD : va_D A [(z 17, aI V 7 (fun _ => 0)), (z 0, .inr (10, mo z 0 0 0 0 0 0 0 0 0 0 (-1) 0 0 0 0 0)), (z 1, aI V 3075 (fun _ => 0))] := by rw [upd0] at hD; exact hD
  refine lv_iinc (v := 7) (lv' := [(1, .int 7), (0, .ref (z 0))]) hx hb dX10_stores_23 hl (k := 0) rfl (by decide +kernel) (by decide) rfl (fun ls hl => ?_)
  refine lv_goto (tgt := 2) hx hb dX10_stores_26 (by decide) ?_
  refine lv_iload_n hx hb dX10_stores_2 rfl (lv_at hl 0 rfl) ?_
  refine lv_bipush (v := 7) hx hb dX10_stores_3 (by decide) ?_
  refine lv_icmp_ge (tgt := 29) hx hb dX10_stores_5 (by decide) (fun _ => ?_) (fun c_8 => absurd c_8 (by decide))
  exact fiV hx hb hr hlk hK hP hD hS dX10_stores_29 (Nat.le_of_ble_eq_true rfl) (Nat.le_of_ble_eq_true rfl) (rfl)
set_option maxHeartbeats 4000000 in
set_option maxRecDepth 100000 in
theorem c_X10_standNow_0 (l : Launch) (V : GV) (z : Nat → Nat) : Ct l V yX10_standNow (.code yX10_standNow cX10_standNow 3 (some .int)) 1 [.ref (z 0)] [(z 0, .inr (10, mo z 0 0 0 0 0 0 0 0 0 0 (-1) 0 0 0 0 0)), (z 1, aI V 3075 (fun _ => 0))] 0 0 (QI V (fun (r : Int32) (w : va_W) => (r = 0 ∧ w = [(z 0, .inr (10, mo z 0 0 0 0 0 0 0 0 0 0 (-1) 0 0 0 0 0)), (z 1, aI V 3075 (fun _ => 0))]))) := by
  refine Ct.of (by decide) (Nat.le_of_ble_eq_true rfl) (fun p e s m below meth c A ls hx hb hr hml hown hlk hnm hg hP hK hD hE hA hS hl => ?_)
  have hl : lv_has ls 3 [(0, .ref (z 0))] := hl
  refine lv_sipush (v := 625) hx hb dX10_standNow_0 (by decide) ?_
  refine lv_aload_n hx hb dX10_standNow_3 rfl (lv_at hl 0 rfl) ?_
  refine va_get (ci := 10) (v := .ref (z 1)) (C := RX10) (T := TX10) (N := 40) hx hb hg inX10 hown hK hP 0 rfl rfl 1 (by decide) (hg _ q_5_225) (fun _ h9 => h9) rfl dX10_standNow_4 ?_
  refine lv_bipush (v := 50) hx hb dX10_standNow_7 (by decide) ?_
  refine va_iald hx hb hK hP 1 0 rfl rfl (vin (by decide +kernel)) dX10_standNow_9 ?_
  refine tpi (y := 0) (rfl) ?_
  refine lv_imul hx hb dX10_standNow_10 ?_
  refine tpi (y := 0) (by decide +kernel) ?_
  refine lv_istore_n (lv' := [(1, .int 0), (0, .ref (z 0))]) hx hb dX10_standNow_11 rfl hl (by decide) rfl (fun ls hl => ?_)
  refine lv_iconst (v := 0) hx hb dX10_standNow_12 (by decide) ?_
  refine lv_istore_n (lv' := [(2, .int 0), (1, .int 0), (0, .ref (z 0))]) hx hb dX10_standNow_13 rfl hl (by decide) rfl (fun ls hl => ?_)
  refine lv_iload_n hx hb dX10_standNow_14 rfl (lv_at hl 0 rfl) ?_
  refine lv_aload_n hx hb dX10_standNow_15 rfl (lv_at hl 2 rfl) ?_
  refine va_get (ci := 10) (v := .ref (z 1)) (C := RX10) (T := TX10) (N := 40) hx hb hg inX10 hown hK hP 0 rfl rfl 1 (by decide) (hg _ q_5_225) (fun _ h9 => h9) rfl dX10_standNow_16 ?_
  refine lv_iconst (v := 1) hx hb dX10_standNow_19 (by decide) ?_
  refine va_iald hx hb hK hP 1 0 rfl rfl (vin (by decide +kernel)) dX10_standNow_20 ?_
  refine tpi (y := 0) (rfl) ?_
  refine lv_icmp_ge (tgt := 47) hx hb dX10_standNow_21 (by decide) (fun _ => ?_) (fun c_1 => absurd c_1 (by decide))
  refine lv_iload_n hx hb dX10_standNow_47 rfl (lv_at hl 1 rfl) ?_
  exact fiI hx hb hr hlk hK hP hD hS dX10_standNow_48 (Nat.le_of_ble_eq_true rfl) (Nat.le_of_ble_eq_true rfl) (⟨rfl, rfl⟩)
set_option maxHeartbeats 4000000 in
set_option maxRecDepth 100000 in
theorem c_X10_nightTo_0 (l : Launch) (V : GV) (z : Nat → Nat) (p0 : Int32) : Ct l V yX10_nightTo (.code yX10_nightTo cX10_nightTo 6 (some .int)) 1 [.ref (z 0), .int 0, .int p0, .int 0] [(z 0, .inr (10, mo z 0 0 0 0 0 0 0 0 0 0 (-1) 0 0 0 0 0)), (z 1, aI V 3075 (fun _ => 0))] 0 0 (QI V (fun (r : Int32) (w : va_W) => (r = 0 ∧ w = [(z 0, .inr (10, mo z 0 0 0 0 0 0 0 0 0 0 (-1) 0 0 0 0 0)), (z 1, aI V 3075 (fun _ => 0))]))) := by
  refine Ct.of (by decide) (Nat.le_of_ble_eq_true rfl) (fun p e s m below meth c A ls hx hb hr hml hown hlk hnm hg hP hK hD hE hA hS hl => ?_)
  have hl : lv_has ls 6 [(0, .ref (z 0)), (1, .int 0), (2, .int p0), (3, .int 0)] := hl
  refine lv_iconst (v := 0) hx hb dX10_nightTo_0 (by decide) ?_
  refine lv_istore (lv' := [(4, .int 0), (0, .ref (z 0)), (1, .int 0), (2, .int p0), (3, .int 0)]) hx hb dX10_nightTo_1 hl (by decide) rfl (fun ls hl => ?_)
  refine lv_iconst (v := 0) hx hb dX10_nightTo_3 (by decide) ?_
  refine lv_istore (lv' := [(5, .int 0), (4, .int 0), (0, .ref (z 0)), (1, .int 0), (2, .int p0), (3, .int 0)]) hx hb dX10_nightTo_4 hl (by decide) rfl (fun ls hl => ?_)
  refine lv_iload hx hb dX10_nightTo_6 (lv_at hl 0 rfl) ?_
  refine lv_aload_n hx hb dX10_nightTo_8 rfl (lv_at hl 2 rfl) ?_
  refine va_get (ci := 10) (v := .ref (z 1)) (C := RX10) (T := TX10) (N := 40) hx hb hg inX10 hown hK hP 0 rfl rfl 1 (by decide) (hg _ q_5_225) (fun _ h9 => h9) rfl dX10_nightTo_9 ?_
  refine lv_iconst (v := 1) hx hb dX10_nightTo_12 (by decide) ?_
  refine va_iald hx hb hK hP 1 0 rfl rfl (vin (by decide +kernel)) dX10_nightTo_13 ?_
  refine tpi (y := 0) (rfl) ?_
  refine lv_icmp_ge (tgt := 98) hx hb dX10_nightTo_14 (by decide) (fun _ => ?_) (fun c_1 => absurd c_1 (by decide))
  refine lv_iload hx hb dX10_nightTo_98 (lv_at hl 1 rfl) ?_
  exact fiI hx hb hr hlk hK hP hD hS dX10_nightTo_100 (Nat.le_of_ble_eq_true rfl) (Nat.le_of_ble_eq_true rfl) (⟨rfl, rfl⟩)
set_option maxHeartbeats 4000000 in
set_option maxRecDepth 100000 in
theorem c_X10_tookIn_0 (l : Launch) (V : GV) : Ct l V yX10_tookIn (.code yX10_tookIn cX10_tookIn 1 (some .int)) 1 [.int 0] [] 0 0 (QI V (fun (r : Int32) (w : va_W) => (r = 0 ∧ w = []))) := by
  refine Ct.of (by decide) (Nat.le_of_ble_eq_true rfl) (fun p e s m below meth c A ls hx hb hr hml hown hlk hnm hg hP hK hD hE hA hS hl => ?_)
  have hl : lv_has ls 1 [(0, .int 0)] := hl
  refine lv_iload_n hx hb dX10_tookIn_0 rfl (lv_at hl 0 rfl) ?_
  refine lv_sipush (v := 625) hx hb dX10_tookIn_1 (by decide) ?_
  refine lv_idiv hx hb dX10_tookIn_4 (by decide) ?_
  refine tpi (y := 0) (by decide +kernel) ?_
  exact fiI hx hb hr hlk hK hP hD hS dX10_tookIn_5 (Nat.le_of_ble_eq_true rfl) (Nat.le_of_ble_eq_true rfl) (⟨rfl, rfl⟩)
set_option maxHeartbeats 4000000 in
set_option maxRecDepth 100000 in
theorem c_X10_isStand_0 (l : Launch) (V : GV) (z : Nat → Nat) : Ct l V yX10_isStand (.code yX10_isStand cX10_isStand 3 none) 2 [.ref (z 0), .int 0] [(z 0, .inr (10, mo z 0 0 0 0 0 0 0 0 0 0 (-1) 0 0 0 0 0)), (z 1, aI V 3075 (fun _ => 0))] 0 0 (QV V (fun (w : va_W) => (w = [(z 0, .inr (10, mo z 0 0 0 0 0 0 0 0 0 0 (-1) 0 0 0 0 0)), (z 1, aI V 3075 (fun _ => 0))]))) := by
  refine Ct.of (by decide) (Nat.le_of_ble_eq_true rfl) (fun p e s m below meth c A ls hx hb hr hml hown hlk hnm hg hP hK hD hE hA hS hl => ?_)
  have hl : lv_has ls 3 [(0, .ref (z 0)), (1, .int 0)] := hl
  refine lv_iconst (v := 0) hx hb dX10_isStand_0 (by decide) ?_
  refine lv_istore_n (lv' := [(2, .int 0), (0, .ref (z 0)), (1, .int 0)]) hx hb dX10_isStand_1 rfl hl (by decide) rfl (fun ls hl => ?_)
  refine lv_iload_n hx hb dX10_isStand_2 rfl (lv_at hl 0 rfl) ?_
  refine lv_aload_n hx hb dX10_isStand_3 rfl (lv_at hl 1 rfl) ?_
  refine va_get (ci := 10) (v := .ref (z 1)) (C := RX10) (T := TX10) (N := 40) hx hb hg inX10 hown hK hP 0 rfl rfl 1 (by decide) (hg _ q_5_225) (fun _ h9 => h9) rfl dX10_isStand_4 ?_
  refine lv_iconst (v := 1) hx hb dX10_isStand_7 (by decide) ?_
  refine va_iald hx hb hK hP 1 0 rfl rfl (vin (by decide +kernel)) dX10_isStand_8 ?_
  refine tpi (y := 0) (rfl) ?_
  refine lv_icmp_ge (tgt := 32) hx hb dX10_isStand_9 (by decide) (fun _ => ?_) (fun c_1 => absurd c_1 (by decide))
  refine lv_aload_n hx hb dX10_isStand_32 rfl (lv_at hl 1 rfl) ?_
  refine va_get (ci := 10) (v := .ref (z 1)) (C := RX10) (T := TX10) (N := 40) hx hb hg inX10 hown hK hP 0 rfl rfl 1 (by decide) (hg _ q_5_225) (fun _ h9 => h9) rfl dX10_isStand_33 ?_
  refine lv_bipush (v := 50) hx hb dX10_isStand_36 (by decide) ?_
  refine lv_iload_n hx hb dX10_isStand_38 rfl (lv_at hl 2 rfl) ?_
  refine jnI (wr := [(z 0, .inr (10, mo z 0 0 0 0 0 0 0 0 0 0 (-1) 0 0 0 0 0)), (z 1, aI V 3075 (fun _ => 0))]) (rnS (rest := [.int 50, .ref (z 1)]) ⟨hx, hb, hml, hown, hg⟩ (c_X10_tookIn_0 l V) mt_X10_tookIn q_7_29 ⟨Nat.le_of_ble_eq_true rfl, Nat.le_of_ble_eq_true rfl⟩ hK hP hD hS hA hE [] rfl rfl rfl hl.1 rfl (Nat.le_of_ble_eq_true rfl) dX10_isStand_39 ⟨Nat.le_of_ble_eq_true rfl, Nat.le_of_ble_eq_true rfl⟩) hP hD hS hA [] [0, 1] rfl rfl rfl (by decide) (fun r_2 w H locs hw hP hD hS => ?_)
  obtain ⟨rfl, rfl⟩ := hw
  have hP : va_P V.1 vwCl [(z 0, .inr (10, mo z 0 0 0 0 0 0 0 0 0 0 (-1) 0 0 0 0 0)), (z 1, aI V 3075 (fun _ => 0))] H := hP
  have hD : va_D A [(z 0, .inr (10, mo z 0 0 0 0 0 0 0 0 0 0 (-1) 0 0 0 0 0)), (z 1, aI V 3075 (fun _ => 0))] := hD
  refine va_iast hx hb hK hP hD hS 1 0 rfl rfl (vin (by decide +kernel)) dX10_isStand_42 (fun H locs hP hD hS => ?_)
  have hP : va_P V.1 vwCl [(z 0, .inr (10, mo z 0 0 0 0 0 0 0 0 0 0 (-1) 0 0 0 0 0)), (z 1, aI V 3075 (upd (fun _ => 0) 50 0))] H := hP
  have hD : va_D A [(z 0, .inr (10, mo z 0 0 0 0 0 0 0 0 0 0 (-1) 0 0 0 0 0)), (z 1, aI V 3075 (upd (fun _ => 0) 50 0))] := hD
  have hP : va_P V.1 vwCl [(z 0, .inr (10, mo z 0 0 0 0 0 0 0 0 0 0 (-1) 0 0 0 0 0)), (z 1, aI V 3075 (fun _ => 0))] H := by rw [upd0] at hP; exact hP
  have hD : va_D A [(z 0, .inr (10, mo z 0 0 0 0 0 0 0 0 0 0 (-1) 0 0 0 0 0)), (z 1, aI V 3075 (fun _ => 0))] := by rw [upd0] at hD; exact hD
  exact fiV hx hb hr hlk hK hP hD hS dX10_isStand_43 (Nat.le_of_ble_eq_true rfl) (Nat.le_of_ble_eq_true rfl) (rfl)
set_option maxHeartbeats 4000000 in
set_option maxRecDepth 100000 in
theorem c_X10_goesNight_0 (l : Launch) (V : GV) (z : Nat → Nat) (p0 : Int32) : Ct l V yX10_goesNight (.code yX10_goesNight cX10_goesNight 2 none) 3 [.ref (z 0), .int p0] [(z 0, .inr (10, mo z 0 0 0 0 0 0 0 0 0 0 (-1) 0 0 0 0 0)), (z 1, aI V 3075 (fun _ => 0))] 0 0 (QV V (fun (w : va_W) => (w = [(z 0, .inr (10, mo z 0 0 0 0 0 0 0 0 0 0 (-1) 0 0 0 0 0)), (z 1, aI V 3075 (upd (fun _ => 0) 52 1))]))) := by
  refine Ct.of (by decide) (Nat.le_of_ble_eq_true rfl) (fun p e s m below meth c A ls hx hb hr hml hown hlk hnm hg hP hK hD hE hA hS hl => ?_)
  have hl : lv_has ls 2 [(0, .ref (z 0)), (1, .int p0)] := hl
  refine lv_aload_n hx hb dX10_goesNight_0 rfl (lv_at hl 0 rfl) ?_
  refine lv_aload_n hx hb dX10_goesNight_1 rfl (lv_at hl 0 rfl) ?_
  refine lv_aload_n hx hb dX10_goesNight_2 rfl (lv_at hl 0 rfl) ?_
  refine jnI (wr := []) (rnV (rest := [.ref (z 0), .ref (z 0)]) ⟨hx, hb, hml, hown, hg⟩ (c_X10_standNow_0 l V z) mt_X10_standNow q_7_11 ⟨Nat.le_of_ble_eq_true rfl, Nat.le_of_ble_eq_true rfl⟩ hK hP hD hS hA hE [0, 1] rfl rfl 0 rfl rfl rfl rfl hl.1 rfl (Nat.le_of_ble_eq_true rfl) dX10_goesNight_3 ⟨Nat.le_of_ble_eq_true rfl, Nat.le_of_ble_eq_true rfl⟩) hP hD hS hA [0, 1] [] rfl rfl rfl (by decide) (fun r_1 w H locs hw hP hD hS => ?_)
  obtain ⟨rfl, rfl⟩ := hw
  have hP : va_P V.1 vwCl [(z 0, .inr (10, mo z 0 0 0 0 0 0 0 0 0 0 (-1) 0 0 0 0 0)), (z 1, aI V 3075 (fun _ => 0))] H := hP
  have hD : va_D A [(z 0, .inr (10, mo z 0 0 0 0 0 0 0 0 0 0 (-1) 0 0 0 0 0)), (z 1, aI V 3075 (fun _ => 0))] := hD
  refine lv_iload_n hx hb dX10_goesNight_6 rfl (lv_at hl 1 rfl) ?_
  refine lv_aload_n hx hb dX10_goesNight_7 rfl (lv_at hl 0 rfl) ?_
  refine va_get (ci := 10) (v := .ref (z 1)) (C := RX10) (T := TX10) (N := 40) hx hb hg inX10 hown hK hP 0 rfl rfl 1 (by decide) (hg _ q_5_225) (fun _ h9 => h9) rfl dX10_goesNight_8 ?_
  refine lv_bipush (v := 51) hx hb dX10_goesNight_11 (by decide) ?_
  refine va_iald hx hb hK hP 1 0 rfl rfl (vin (by decide +kernel)) dX10_goesNight_13 ?_
  refine tpi (y := 0) (rfl) ?_
  refine jnI (wr := []) (rnV (rest := [.ref (z 0)]) ⟨hx, hb, hml, hown, hg⟩ (c_X10_nightTo_0 l V z p0) mt_X10_nightTo q_7_18 ⟨Nat.le_of_ble_eq_true rfl, Nat.le_of_ble_eq_true rfl⟩ hK hP hD hS hA hE [0, 1] rfl rfl 0 rfl rfl rfl rfl hl.1 rfl (Nat.le_of_ble_eq_true rfl) dX10_goesNight_14 ⟨Nat.le_of_ble_eq_true rfl, Nat.le_of_ble_eq_true rfl⟩) hP hD hS hA [0, 1] [] rfl rfl rfl (by decide) (fun r_2 w H locs hw hP hD hS => ?_)
  obtain ⟨rfl, rfl⟩ := hw
  have hP : va_P V.1 vwCl [(z 0, .inr (10, mo z 0 0 0 0 0 0 0 0 0 0 (-1) 0 0 0 0 0)), (z 1, aI V 3075 (fun _ => 0))] H := hP
  have hD : va_D A [(z 0, .inr (10, mo z 0 0 0 0 0 0 0 0 0 0 (-1) 0 0 0 0 0)), (z 1, aI V 3075 (fun _ => 0))] := hD
  refine jnV (wr := []) (rnV (rest := []) ⟨hx, hb, hml, hown, hg⟩ (c_X10_isStand_0 l V z) mt_X10_isStand q_7_68 ⟨Nat.le_of_ble_eq_true rfl, Nat.le_of_ble_eq_true rfl⟩ hK hP hD hS hA hE [0, 1] rfl rfl 0 rfl rfl rfl rfl hl.1 rfl (Nat.le_of_ble_eq_true rfl) dX10_goesNight_17 ⟨Nat.le_of_ble_eq_true rfl, Nat.le_of_ble_eq_true rfl⟩) hP hD hS hA [0, 1] [] rfl rfl rfl (by decide) (fun  w H locs hw hP hD hS => ?_)
  subst hw
  have hP : va_P V.1 vwCl [(z 0, .inr (10, mo z 0 0 0 0 0 0 0 0 0 0 (-1) 0 0 0 0 0)), (z 1, aI V 3075 (fun _ => 0))] H := hP
  have hD : va_D A [(z 0, .inr (10, mo z 0 0 0 0 0 0 0 0 0 0 (-1) 0 0 0 0 0)), (z 1, aI V 3075 (fun _ => 0))] := hD
  refine lv_aload_n hx hb dX10_goesNight_20 rfl (lv_at hl 0 rfl) ?_
  refine va_get (ci := 10) (v := .ref (z 1)) (C := RX10) (T := TX10) (N := 40) hx hb hg inX10 hown hK hP 0 rfl rfl 1 (by decide) (hg _ q_5_225) (fun _ h9 => h9) rfl dX10_goesNight_21 ?_
  refine lv_bipush (v := 52) hx hb dX10_goesNight_24 (by decide) ?_
  refine lv_dup2_11 hx hb dX10_goesNight_26 rfl rfl ?_
  refine va_iald hx hb hK hP 1 0 rfl rfl (vin (by decide +kernel)) dX10_goesNight_27 ?_
  refine tpi (y := 0) (rfl) ?_
  refine lv_iconst (v := 1) hx hb dX10_goesNight_28 (by decide) ?_
  refine lv_iadd hx hb dX10_goesNight_29 ?_
  refine tpi (y := 1) (by decide +kernel) ?_
  refine va_iast hx hb hK hP hD hS 1 0 rfl rfl (vin (by decide +kernel)) dX10_goesNight_30 (fun H locs hP hD hS => ?_)
  have hP : va_P V.1 vwCl [(z 0, .inr (10, mo z 0 0 0 0 0 0 0 0 0 0 (-1) 0 0 0 0 0)), (z 1, aI V 3075 (upd (fun _ => 0) 52 1))] H := hP
  have hD : va_D A [(z 0, .inr (10, mo z 0 0 0 0 0 0 0 0 0 0 (-1) 0 0 0 0 0)), (z 1, aI V 3075 (upd (fun _ => 0) 52 1))] := hD
  exact fiV hx hb hr hlk hK hP hD hS dX10_goesNight_31 (Nat.le_of_ble_eq_true rfl) (Nat.le_of_ble_eq_true rfl) (rfl)
set_option maxHeartbeats 4000000 in
set_option maxRecDepth 100000 in
theorem c_X10_notes_0 (l : Launch) (V : GV) (z : Nat → Nat) : Ct l V yX10_notes (.code yX10_notes cX10_notes 2 none) 1 [.ref (z 0)] [(z 17, aI V 7 (fun _ => 0)), (z 0, .inr (10, mo z 0 0 0 0 0 0 0 0 0 0 (-1) 0 0 0 0 0)), (z 1, aI V 3075 (upd (fun _ => 0) 52 1))] 0 0 (QV V (fun (w : va_W) => (w = [(z 17, aI V 7 (fun _ => 0)), (z 0, .inr (10, mo z 0 0 0 0 0 0 0 0 0 0 (-1) 0 0 0 0 0)), (z 1, aI V 3075 (upd (upd (upd (upd (upd (upd (upd (upd (upd (fun _ => 0) 52 1) 54 0) 55 0) 56 0) 57 0) 58 0) 59 0) 60 0) 53 1))]))) := by
  refine Ct.of (by decide) (Nat.le_of_ble_eq_true rfl) (fun p e s m below meth c A ls hx hb hr hml hown hlk hnm hg hP hK hD hE hA hS hl => ?_)
  have hl : lv_has ls 2 [(0, .ref (z 0))] := hl
  refine lv_aload_n hx hb dX10_notes_0 rfl (lv_at hl 0 rfl) ?_
  refine va_get (ci := 10) (v := .ref (z 1)) (C := RX10) (T := TX10) (N := 40) hx hb hg inX10 hown hK hP 1 rfl rfl 1 (by decide) (hg _ q_5_225) (fun _ h9 => h9) rfl dX10_notes_1 ?_
  refine lv_bipush (v := 53) hx hb dX10_notes_4 (by decide) ?_
  refine va_iald hx hb hK hP 2 0 rfl rfl (vin (by decide +kernel)) dX10_notes_6 ?_
  refine tpi (y := 0) (rfl) ?_
  refine lv_bipush (v := 10) hx hb dX10_notes_7 (by decide) ?_
  refine lv_icmp_ne (tgt := 55) hx hb dX10_notes_9 (by decide) (fun _ => ?_) (fun c_1 => absurd c_1 (by decide))
  refine lv_iconst (v := 0) hx hb dX10_notes_55 (by decide) ?_
  refine lv_istore_n (lv' := [(1, .int 0), (0, .ref (z 0))]) hx hb dX10_notes_56 rfl hl (by decide) rfl (fun ls hl => ?_)
  refine lv_iload_n hx hb dX10_notes_57 rfl (lv_at hl 0 rfl) ?_
  refine lv_bipush (v := 7) hx hb dX10_notes_58 (by decide) ?_
  refine lv_icmp_ge (tgt := 95) hx hb dX10_notes_60 (by decide) (fun c_2 => absurd c_2 (by decide)) (fun _ => ?_)
  refine lv_aload_n hx hb dX10_notes_63 rfl (lv_at hl 1 rfl) ?_
  refine va_get (ci := 10) (v := .ref (z 1)) (C := RX10) (T := TX10) (N := 40) hx hb hg inX10 hown hK hP 1 rfl rfl 1 (by decide) (hg _ q_5_225) (fun _ h9 => h9) rfl dX10_notes_64 ?_
  refine lv_bipush (v := 54) hx hb dX10_notes_67 (by decide) ?_
  refine lv_bipush (v := 7) hx hb dX10_notes_69 (by decide) ?_
  refine lv_aload_n hx hb dX10_notes_71 rfl (lv_at hl 1 rfl) ?_
  refine va_get (ci := 10) (v := .ref (z 1)) (C := RX10) (T := TX10) (N := 40) hx hb hg inX10 hown hK hP 1 rfl rfl 1 (by decide) (hg _ q_5_225) (fun _ h9 => h9) rfl dX10_notes_72 ?_
  refine lv_bipush (v := 53) hx hb dX10_notes_75 (by decide) ?_
  refine va_iald hx hb hK hP 2 0 rfl rfl (vin (by decide +kernel)) dX10_notes_77 ?_
  refine tpi (y := 0) (rfl) ?_
  refine lv_imul hx hb dX10_notes_78 ?_
  refine tpi (y := 0) (by decide +kernel) ?_
  refine lv_iadd hx hb dX10_notes_79 ?_
  refine tpi (y := 54) (by decide +kernel) ?_
  refine lv_iload_n hx hb dX10_notes_80 rfl (lv_at hl 0 rfl) ?_
  refine lv_iadd hx hb dX10_notes_81 ?_
  refine tpi (y := 54) (by decide +kernel) ?_
  refine lv_aload_n hx hb dX10_notes_82 rfl (lv_at hl 1 rfl) ?_
  refine va_get (ci := 10) (v := .ref (z 17)) (C := RX10) (T := TX10) (N := 40) hx hb hg inX10 hown hK hP 1 rfl rfl 17 (by decide) (hg _ q_6_1) (fun _ h9 => h9) rfl dX10_notes_83 ?_
  refine lv_iload_n hx hb dX10_notes_86 rfl (lv_at hl 0 rfl) ?_
  refine va_iald hx hb hK hP 0 0 rfl rfl (vin (by decide +kernel)) dX10_notes_87 ?_
  refine tpi (y := 0) (rfl) ?_
  refine va_iast hx hb hK hP hD hS 2 0 rfl rfl (vin (by decide +kernel)) dX10_notes_88 (fun H locs hP hD hS => ?_)
  have hP : va_P V.1 vwCl [(z 17, aI V 7 (fun _ => 0)), (z 0, .inr (10, mo z 0 0 0 0 0 0 0 0 0 0 (-1) 0 0 0 0 0)), (z 1, aI V 3075 (upd (upd (fun _ => 0) 52 1) 54 0))] H := hP
  have hD : va_D A [(z 17, aI V 7 (fun _ => 0)), (z 0, .inr (10, mo z 0 0 0 0 0 0 0 0 0 0 (-1) 0 0 0 0 0)), (z 1, aI V 3075 (upd (upd (fun _ => 0) 52 1) 54 0))] := hD
  refine lv_iinc (v := 1) (lv' := [(1, .int 1), (0, .ref (z 0))]) hx hb dX10_notes_89 hl (k := 0) rfl (by decide +kernel) (by decide) rfl (fun ls hl => ?_)
  refine lv_goto (tgt := 57) hx hb dX10_notes_92 (by decide) ?_
  refine lv_iload_n hx hb dX10_notes_57 rfl (lv_at hl 0 rfl) ?_
  refine lv_bipush (v := 7) hx hb dX10_notes_58 (by decide) ?_
  refine lv_icmp_ge (tgt := 95) hx hb dX10_notes_60 (by decide) (fun c_3 => absurd c_3 (by decide)) (fun _ => ?_)
  refine lv_aload_n hx hb dX10_notes_63 rfl (lv_at hl 1 rfl) ?_
  refine va_get (ci := 10) (v := .ref (z 1)) (C := RX10) (T := TX10) (N := 40) hx hb hg inX10 hown hK hP 1 rfl rfl 1 (by decide) (hg _ q_5_225) (fun _ h9 => h9) rfl dX10_notes_64 ?_
  refine lv_bipush (v := 54) hx hb dX10_notes_67 (by decide) ?_
  refine lv_bipush (v := 7) hx hb dX10_notes_69 (by decide) ?_
  refine lv_aload_n hx hb dX10_notes_71 rfl (lv_at hl 1 rfl) ?_
  refine va_get (ci := 10) (v := .ref (z 1)) (C := RX10) (T := TX10) (N := 40) hx hb hg inX10 hown hK hP 1 rfl rfl 1 (by decide) (hg _ q_5_225) (fun _ h9 => h9) rfl dX10_notes_72 ?_
  refine lv_bipush (v := 53) hx hb dX10_notes_75 (by decide) ?_
  refine va_iald hx hb hK hP 2 0 rfl rfl (vin (by decide +kernel)) dX10_notes_77 ?_
  refine tpi (y := 0) (rfl) ?_
  refine lv_imul hx hb dX10_notes_78 ?_
  refine tpi (y := 0) (by decide +kernel) ?_
  refine lv_iadd hx hb dX10_notes_79 ?_
  refine tpi (y := 54) (by decide +kernel) ?_
  refine lv_iload_n hx hb dX10_notes_80 rfl (lv_at hl 0 rfl) ?_
  refine lv_iadd hx hb dX10_notes_81 ?_
  refine tpi (y := 55) (by decide +kernel) ?_
  refine lv_aload_n hx hb dX10_notes_82 rfl (lv_at hl 1 rfl) ?_
  refine va_get (ci := 10) (v := .ref (z 17)) (C := RX10) (T := TX10) (N := 40) hx hb hg inX10 hown hK hP 1 rfl rfl 17 (by decide) (hg _ q_6_1) (fun _ h9 => h9) rfl dX10_notes_83 ?_
  refine lv_iload_n hx hb dX10_notes_86 rfl (lv_at hl 0 rfl) ?_
  refine va_iald hx hb hK hP 0 0 rfl rfl (vin (by decide +kernel)) dX10_notes_87 ?_
  refine tpi (y := 0) (rfl) ?_
  refine va_iast hx hb hK hP hD hS 2 0 rfl rfl (vin (by decide +kernel)) dX10_notes_88 (fun H locs hP hD hS => ?_)
  have hP : va_P V.1 vwCl [(z 17, aI V 7 (fun _ => 0)), (z 0, .inr (10, mo z 0 0 0 0 0 0 0 0 0 0 (-1) 0 0 0 0 0)), (z 1, aI V 3075 (upd (upd (upd (fun _ => 0) 52 1) 54 0) 55 0))] H := hP
  have hD : va_D A [(z 17, aI V 7 (fun _ => 0)), (z 0, .inr (10, mo z 0 0 0 0 0 0 0 0 0 0 (-1) 0 0 0 0 0)), (z 1, aI V 3075 (upd (upd (upd (fun _ => 0) 52 1) 54 0) 55 0))] := hD
  refine lv_iinc (v := 2) (lv' := [(1, .int 2), (0, .ref (z 0))]) hx hb dX10_notes_89 hl (k := 0) rfl (by decide +kernel) (by decide) rfl (fun ls hl => ?_)
  refine lv_goto (tgt := 57) hx hb dX10_notes_92 (by decide) ?_
  refine lv_iload_n hx hb dX10_notes_57 rfl (lv_at hl 0 rfl) ?_
  refine lv_bipush (v := 7) hx hb dX10_notes_58 (by decide) ?_
  refine lv_icmp_ge (tgt := 95) hx hb dX10_notes_60 (by decide) (fun c_4 => absurd c_4 (by decide)) (fun _ => ?_)
  refine lv_aload_n hx hb dX10_notes_63 rfl (lv_at hl 1 rfl) ?_
  refine va_get (ci := 10) (v := .ref (z 1)) (C := RX10) (T := TX10) (N := 40) hx hb hg inX10 hown hK hP 1 rfl rfl 1 (by decide) (hg _ q_5_225) (fun _ h9 => h9) rfl dX10_notes_64 ?_
  refine lv_bipush (v := 54) hx hb dX10_notes_67 (by decide) ?_
  refine lv_bipush (v := 7) hx hb dX10_notes_69 (by decide) ?_
  refine lv_aload_n hx hb dX10_notes_71 rfl (lv_at hl 1 rfl) ?_
  refine va_get (ci := 10) (v := .ref (z 1)) (C := RX10) (T := TX10) (N := 40) hx hb hg inX10 hown hK hP 1 rfl rfl 1 (by decide) (hg _ q_5_225) (fun _ h9 => h9) rfl dX10_notes_72 ?_
  refine lv_bipush (v := 53) hx hb dX10_notes_75 (by decide) ?_
  refine va_iald hx hb hK hP 2 0 rfl rfl (vin (by decide +kernel)) dX10_notes_77 ?_
  refine tpi (y := 0) (rfl) ?_
  refine lv_imul hx hb dX10_notes_78 ?_
  refine tpi (y := 0) (by decide +kernel) ?_
  refine lv_iadd hx hb dX10_notes_79 ?_
  refine tpi (y := 54) (by decide +kernel) ?_
  refine lv_iload_n hx hb dX10_notes_80 rfl (lv_at hl 0 rfl) ?_
  refine lv_iadd hx hb dX10_notes_81 ?_
  refine tpi (y := 56) (by decide +kernel) ?_
  refine lv_aload_n hx hb dX10_notes_82 rfl (lv_at hl 1 rfl) ?_
  refine va_get (ci := 10) (v := .ref (z 17)) (C := RX10) (T := TX10) (N := 40) hx hb hg inX10 hown hK hP 1 rfl rfl 17 (by decide) (hg _ q_6_1) (fun _ h9 => h9) rfl dX10_notes_83 ?_
  refine lv_iload_n hx hb dX10_notes_86 rfl (lv_at hl 0 rfl) ?_
  refine va_iald hx hb hK hP 0 0 rfl rfl (vin (by decide +kernel)) dX10_notes_87 ?_
  refine tpi (y := 0) (rfl) ?_
  refine va_iast hx hb hK hP hD hS 2 0 rfl rfl (vin (by decide +kernel)) dX10_notes_88 (fun H locs hP hD hS => ?_)
  have hP : va_P V.1 vwCl [(z 17, aI V 7 (fun _ => 0)), (z 0, .inr (10, mo z 0 0 0 0 0 0 0 0 0 0 (-1) 0 0 0 0 0)), (z 1, aI V 3075 (upd (upd (upd (upd (fun _ => 0) 52 1) 54 0) 55 0) 56 0))] H := hP
  have hD : va_D A [(z 17, aI V 7 (fun _ => 0)), (z 0, .inr (10, mo z 0 0 0 0 0 0 0 0 0 0 (-1) 0 0 0 0 0)), (z 1, aI V 3075 (upd (upd (upd (upd (fun _ => 0) 52 1) 54 0) 55 0) 56 0))] := hD
  refine lv_iinc (v := 3) (lv' := [(1, .int 3), (0, .ref (z 0))]) hx hb dX10_notes_89 hl (k := 0) rfl (by decide +kernel) (by decide) rfl (fun ls hl => ?_)
  refine lv_goto (tgt := 57) hx hb dX10_notes_92 (by decide) ?_
  refine lv_iload_n hx hb dX10_notes_57 rfl (lv_at hl 0 rfl) ?_
  refine lv_bipush (v := 7) hx hb dX10_notes_58 (by decide) ?_
  refine lv_icmp_ge (tgt := 95) hx hb dX10_notes_60 (by decide) (fun c_5 => absurd c_5 (by decide)) (fun _ => ?_)
  refine lv_aload_n hx hb dX10_notes_63 rfl (lv_at hl 1 rfl) ?_
  refine va_get (ci := 10) (v := .ref (z 1)) (C := RX10) (T := TX10) (N := 40) hx hb hg inX10 hown hK hP 1 rfl rfl 1 (by decide) (hg _ q_5_225) (fun _ h9 => h9) rfl dX10_notes_64 ?_
  refine lv_bipush (v := 54) hx hb dX10_notes_67 (by decide) ?_
  refine lv_bipush (v := 7) hx hb dX10_notes_69 (by decide) ?_
  refine lv_aload_n hx hb dX10_notes_71 rfl (lv_at hl 1 rfl) ?_
  refine va_get (ci := 10) (v := .ref (z 1)) (C := RX10) (T := TX10) (N := 40) hx hb hg inX10 hown hK hP 1 rfl rfl 1 (by decide) (hg _ q_5_225) (fun _ h9 => h9) rfl dX10_notes_72 ?_
  refine lv_bipush (v := 53) hx hb dX10_notes_75 (by decide) ?_
  refine va_iald hx hb hK hP 2 0 rfl rfl (vin (by decide +kernel)) dX10_notes_77 ?_
  refine tpi (y := 0) (rfl) ?_
  refine lv_imul hx hb dX10_notes_78 ?_
  refine tpi (y := 0) (by decide +kernel) ?_
  refine lv_iadd hx hb dX10_notes_79 ?_
  refine tpi (y := 54) (by decide +kernel) ?_
  refine lv_iload_n hx hb dX10_notes_80 rfl (lv_at hl 0 rfl) ?_
  refine lv_iadd hx hb dX10_notes_81 ?_
  refine tpi (y := 57) (by decide +kernel) ?_
  refine lv_aload_n hx hb dX10_notes_82 rfl (lv_at hl 1 rfl) ?_
  refine va_get (ci := 10) (v := .ref (z 17)) (C := RX10) (T := TX10) (N := 40) hx hb hg inX10 hown hK hP 1 rfl rfl 17 (by decide) (hg _ q_6_1) (fun _ h9 => h9) rfl dX10_notes_83 ?_
  refine lv_iload_n hx hb dX10_notes_86 rfl (lv_at hl 0 rfl) ?_
  refine va_iald hx hb hK hP 0 0 rfl rfl (vin (by decide +kernel)) dX10_notes_87 ?_
  refine tpi (y := 0) (rfl) ?_
  refine va_iast hx hb hK hP hD hS 2 0 rfl rfl (vin (by decide +kernel)) dX10_notes_88 (fun H locs hP hD hS => ?_)
  have hP : va_P V.1 vwCl [(z 17, aI V 7 (fun _ => 0)), (z 0, .inr (10, mo z 0 0 0 0 0 0 0 0 0 0 (-1) 0 0 0 0 0)), (z 1, aI V 3075 (upd (upd (upd (upd (upd (fun _ => 0) 52 1) 54 0) 55 0) 56 0) 57 0))] H := hP
  have hD : va_D A [(z 17, aI V 7 (fun _ => 0)), (z 0, .inr (10, mo z 0 0 0 0 0 0 0 0 0 0 (-1) 0 0 0 0 0)), (z 1, aI V 3075 (upd (upd (upd (upd (upd (fun _ => 0) 52 1) 54 0) 55 0) 56 0) 57 0))] := hD
  refine lv_iinc (v := 4) (lv' := [(1, .int 4), (0, .ref (z 0))]) hx hb dX10_notes_89 hl (k := 0) rfl (by decide +kernel) (by decide) rfl (fun ls hl => ?_)
  refine lv_goto (tgt := 57) hx hb dX10_notes_92 (by decide) ?_
  refine lv_iload_n hx hb dX10_notes_57 rfl (lv_at hl 0 rfl) ?_
  refine lv_bipush (v := 7) hx hb dX10_notes_58 (by decide) ?_
  refine lv_icmp_ge (tgt := 95) hx hb dX10_notes_60 (by decide) (fun c_6 => absurd c_6 (by decide)) (fun _ => ?_)
  refine lv_aload_n hx hb dX10_notes_63 rfl (lv_at hl 1 rfl) ?_
  refine va_get (ci := 10) (v := .ref (z 1)) (C := RX10) (T := TX10) (N := 40) hx hb hg inX10 hown hK hP 1 rfl rfl 1 (by decide) (hg _ q_5_225) (fun _ h9 => h9) rfl dX10_notes_64 ?_
  refine lv_bipush (v := 54) hx hb dX10_notes_67 (by decide) ?_
  refine lv_bipush (v := 7) hx hb dX10_notes_69 (by decide) ?_
  refine lv_aload_n hx hb dX10_notes_71 rfl (lv_at hl 1 rfl) ?_
  refine va_get (ci := 10) (v := .ref (z 1)) (C := RX10) (T := TX10) (N := 40) hx hb hg inX10 hown hK hP 1 rfl rfl 1 (by decide) (hg _ q_5_225) (fun _ h9 => h9) rfl dX10_notes_72 ?_
  refine lv_bipush (v := 53) hx hb dX10_notes_75 (by decide) ?_
  refine va_iald hx hb hK hP 2 0 rfl rfl (vin (by decide +kernel)) dX10_notes_77 ?_
  refine tpi (y := 0) (rfl) ?_
  refine lv_imul hx hb dX10_notes_78 ?_
  refine tpi (y := 0) (by decide +kernel) ?_
  refine lv_iadd hx hb dX10_notes_79 ?_
  refine tpi (y := 54) (by decide +kernel) ?_
  refine lv_iload_n hx hb dX10_notes_80 rfl (lv_at hl 0 rfl) ?_
  refine lv_iadd hx hb dX10_notes_81 ?_
  refine tpi (y := 58) (by decide +kernel) ?_
  refine lv_aload_n hx hb dX10_notes_82 rfl (lv_at hl 1 rfl) ?_
  refine va_get (ci := 10) (v := .ref (z 17)) (C := RX10) (T := TX10) (N := 40) hx hb hg inX10 hown hK hP 1 rfl rfl 17 (by decide) (hg _ q_6_1) (fun _ h9 => h9) rfl dX10_notes_83 ?_
  refine lv_iload_n hx hb dX10_notes_86 rfl (lv_at hl 0 rfl) ?_
  refine va_iald hx hb hK hP 0 0 rfl rfl (vin (by decide +kernel)) dX10_notes_87 ?_
  refine tpi (y := 0) (rfl) ?_
  refine va_iast hx hb hK hP hD hS 2 0 rfl rfl (vin (by decide +kernel)) dX10_notes_88 (fun H locs hP hD hS => ?_)
  have hP : va_P V.1 vwCl [(z 17, aI V 7 (fun _ => 0)), (z 0, .inr (10, mo z 0 0 0 0 0 0 0 0 0 0 (-1) 0 0 0 0 0)), (z 1, aI V 3075 (upd (upd (upd (upd (upd (upd (fun _ => 0) 52 1) 54 0) 55 0) 56 0) 57 0) 58 0))] H := hP
  have hD : va_D A [(z 17, aI V 7 (fun _ => 0)), (z 0, .inr (10, mo z 0 0 0 0 0 0 0 0 0 0 (-1) 0 0 0 0 0)), (z 1, aI V 3075 (upd (upd (upd (upd (upd (upd (fun _ => 0) 52 1) 54 0) 55 0) 56 0) 57 0) 58 0))] := hD
  refine lv_iinc (v := 5) (lv' := [(1, .int 5), (0, .ref (z 0))]) hx hb dX10_notes_89 hl (k := 0) rfl (by decide +kernel) (by decide) rfl (fun ls hl => ?_)
  refine lv_goto (tgt := 57) hx hb dX10_notes_92 (by decide) ?_
  refine lv_iload_n hx hb dX10_notes_57 rfl (lv_at hl 0 rfl) ?_
  refine lv_bipush (v := 7) hx hb dX10_notes_58 (by decide) ?_
  refine lv_icmp_ge (tgt := 95) hx hb dX10_notes_60 (by decide) (fun c_7 => absurd c_7 (by decide)) (fun _ => ?_)
  refine lv_aload_n hx hb dX10_notes_63 rfl (lv_at hl 1 rfl) ?_
  refine va_get (ci := 10) (v := .ref (z 1)) (C := RX10) (T := TX10) (N := 40) hx hb hg inX10 hown hK hP 1 rfl rfl 1 (by decide) (hg _ q_5_225) (fun _ h9 => h9) rfl dX10_notes_64 ?_
  refine lv_bipush (v := 54) hx hb dX10_notes_67 (by decide) ?_
  refine lv_bipush (v := 7) hx hb dX10_notes_69 (by decide) ?_
  refine lv_aload_n hx hb dX10_notes_71 rfl (lv_at hl 1 rfl) ?_
  refine va_get (ci := 10) (v := .ref (z 1)) (C := RX10) (T := TX10) (N := 40) hx hb hg inX10 hown hK hP 1 rfl rfl 1 (by decide) (hg _ q_5_225) (fun _ h9 => h9) rfl dX10_notes_72 ?_
  refine lv_bipush (v := 53) hx hb dX10_notes_75 (by decide) ?_
  refine va_iald hx hb hK hP 2 0 rfl rfl (vin (by decide +kernel)) dX10_notes_77 ?_
  refine tpi (y := 0) (rfl) ?_
  refine lv_imul hx hb dX10_notes_78 ?_
  refine tpi (y := 0) (by decide +kernel) ?_
  refine lv_iadd hx hb dX10_notes_79 ?_
  refine tpi (y := 54) (by decide +kernel) ?_
  refine lv_iload_n hx hb dX10_notes_80 rfl (lv_at hl 0 rfl) ?_
  refine lv_iadd hx hb dX10_notes_81 ?_
  refine tpi (y := 59) (by decide +kernel) ?_
  refine lv_aload_n hx hb dX10_notes_82 rfl (lv_at hl 1 rfl) ?_
  refine va_get (ci := 10) (v := .ref (z 17)) (C := RX10) (T := TX10) (N := 40) hx hb hg inX10 hown hK hP 1 rfl rfl 17 (by decide) (hg _ q_6_1) (fun _ h9 => h9) rfl dX10_notes_83 ?_
  refine lv_iload_n hx hb dX10_notes_86 rfl (lv_at hl 0 rfl) ?_
  refine va_iald hx hb hK hP 0 0 rfl rfl (vin (by decide +kernel)) dX10_notes_87 ?_
  refine tpi (y := 0) (rfl) ?_
  refine va_iast hx hb hK hP hD hS 2 0 rfl rfl (vin (by decide +kernel)) dX10_notes_88 (fun H locs hP hD hS => ?_)
  have hP : va_P V.1 vwCl [(z 17, aI V 7 (fun _ => 0)), (z 0, .inr (10, mo z 0 0 0 0 0 0 0 0 0 0 (-1) 0 0 0 0 0)), (z 1, aI V 3075 (upd (upd (upd (upd (upd (upd (upd (fun _ => 0) 52 1) 54 0) 55 0) 56 0) 57 0) 58 0) 59 0))] H := hP
  have hD : va_D A [(z 17, aI V 7 (fun _ => 0)), (z 0, .inr (10, mo z 0 0 0 0 0 0 0 0 0 0 (-1) 0 0 0 0 0)), (z 1, aI V 3075 (upd (upd (upd (upd (upd (upd (upd (fun _ => 0) 52 1) 54 0) 55 0) 56 0) 57 0) 58 0) 59 0))] := hD
  refine lv_iinc (v := 6) (lv' := [(1, .int 6), (0, .ref (z 0))]) hx hb dX10_notes_89 hl (k := 0) rfl (by decide +kernel) (by decide) rfl (fun ls hl => ?_)
  refine lv_goto (tgt := 57) hx hb dX10_notes_92 (by decide) ?_
  refine lv_iload_n hx hb dX10_notes_57 rfl (lv_at hl 0 rfl) ?_
  refine lv_bipush (v := 7) hx hb dX10_notes_58 (by decide) ?_
  refine lv_icmp_ge (tgt := 95) hx hb dX10_notes_60 (by decide) (fun c_8 => absurd c_8 (by decide)) (fun _ => ?_)
  refine lv_aload_n hx hb dX10_notes_63 rfl (lv_at hl 1 rfl) ?_
  refine va_get (ci := 10) (v := .ref (z 1)) (C := RX10) (T := TX10) (N := 40) hx hb hg inX10 hown hK hP 1 rfl rfl 1 (by decide) (hg _ q_5_225) (fun _ h9 => h9) rfl dX10_notes_64 ?_
  refine lv_bipush (v := 54) hx hb dX10_notes_67 (by decide) ?_
  refine lv_bipush (v := 7) hx hb dX10_notes_69 (by decide) ?_
  refine lv_aload_n hx hb dX10_notes_71 rfl (lv_at hl 1 rfl) ?_
  refine va_get (ci := 10) (v := .ref (z 1)) (C := RX10) (T := TX10) (N := 40) hx hb hg inX10 hown hK hP 1 rfl rfl 1 (by decide) (hg _ q_5_225) (fun _ h9 => h9) rfl dX10_notes_72 ?_
  refine lv_bipush (v := 53) hx hb dX10_notes_75 (by decide) ?_
  refine va_iald hx hb hK hP 2 0 rfl rfl (vin (by decide +kernel)) dX10_notes_77 ?_
  refine tpi (y := 0) (rfl) ?_
  refine lv_imul hx hb dX10_notes_78 ?_
  refine tpi (y := 0) (by decide +kernel) ?_
  refine lv_iadd hx hb dX10_notes_79 ?_
  refine tpi (y := 54) (by decide +kernel) ?_
  refine lv_iload_n hx hb dX10_notes_80 rfl (lv_at hl 0 rfl) ?_
  refine lv_iadd hx hb dX10_notes_81 ?_
  refine tpi (y := 60) (by decide +kernel) ?_
  refine lv_aload_n hx hb dX10_notes_82 rfl (lv_at hl 1 rfl) ?_
  refine va_get (ci := 10) (v := .ref (z 17)) (C := RX10) (T := TX10) (N := 40) hx hb hg inX10 hown hK hP 1 rfl rfl 17 (by decide) (hg _ q_6_1) (fun _ h9 => h9) rfl dX10_notes_83 ?_
  refine lv_iload_n hx hb dX10_notes_86 rfl (lv_at hl 0 rfl) ?_
  refine va_iald hx hb hK hP 0 0 rfl rfl (vin (by decide +kernel)) dX10_notes_87 ?_
  refine tpi (y := 0) (rfl) ?_
  refine va_iast hx hb hK hP hD hS 2 0 rfl rfl (vin (by decide +kernel)) dX10_notes_88 (fun H locs hP hD hS => ?_)
  have hP : va_P V.1 vwCl [(z 17, aI V 7 (fun _ => 0)), (z 0, .inr (10, mo z 0 0 0 0 0 0 0 0 0 0 (-1) 0 0 0 0 0)), (z 1, aI V 3075 (upd (upd (upd (upd (upd (upd (upd (upd (fun _ => 0) 52 1) 54 0) 55 0) 56 0) 57 0) 58 0) 59 0) 60 0))] H := hP
  have hD : va_D A [(z 17, aI V 7 (fun _ => 0)), (z 0, .inr (10, mo z 0 0 0 0 0 0 0 0 0 0 (-1) 0 0 0 0 0)), (z 1, aI V 3075 (upd (upd (upd (upd (upd (upd (upd (upd (fun _ => 0) 52 1) 54 0) 55 0) 56 0) 57 0) 58 0) 59 0) 60 0))] := hD
  refine lv_iinc (v := 7) (lv' := [(1, .int 7), (0, .ref (z 0))]) hx hb dX10_notes_89 hl (k := 0) rfl (by decide +kernel) (by decide) rfl (fun ls hl => ?_)
  refine lv_goto (tgt := 57) hx hb dX10_notes_92 (by decide) ?_
  refine lv_iload_n hx hb dX10_notes_57 rfl (lv_at hl 0 rfl) ?_
  refine lv_bipush (v := 7) hx hb dX10_notes_58 (by decide) ?_
  refine lv_icmp_ge (tgt := 95) hx hb dX10_notes_60 (by decide) (fun _ => ?_) (fun c_9 => absurd c_9 (by decide))
  refine lv_aload_n hx hb dX10_notes_95 rfl (lv_at hl 1 rfl) ?_
  refine va_get (ci := 10) (v := .ref (z 1)) (C := RX10) (T := TX10) (N := 40) hx hb hg inX10 hown hK hP 1 rfl rfl 1 (by decide) (hg _ q_5_225) (fun _ h9 => h9) rfl dX10_notes_96 ?_
  refine lv_bipush (v := 53) hx hb dX10_notes_99 (by decide) ?_
  refine lv_dup2_11 hx hb dX10_notes_101 rfl rfl ?_
  refine va_iald hx hb hK hP 2 0 rfl rfl (vin (by decide +kernel)) dX10_notes_102 ?_
  refine tpi (y := 0) (rfl) ?_
  refine lv_iconst (v := 1) hx hb dX10_notes_103 (by decide) ?_
  refine lv_iadd hx hb dX10_notes_104 ?_
  refine tpi (y := 1) (by decide +kernel) ?_
  refine va_iast hx hb hK hP hD hS 2 0 rfl rfl (vin (by decide +kernel)) dX10_notes_105 (fun H locs hP hD hS => ?_)
  have hP : va_P V.1 vwCl [(z 17, aI V 7 (fun _ => 0)), (z 0, .inr (10, mo z 0 0 0 0 0 0 0 0 0 0 (-1) 0 0 0 0 0)), (z 1, aI V 3075 (upd (upd (upd (upd (upd (upd (upd (upd (upd (fun _ => 0) 52 1) 54 0) 55 0) 56 0) 57 0) 58 0) 59 0) 60 0) 53 1))] H := hP
  have hD : va_D A [(z 17, aI V 7 (fun _ => 0)), (z 0, .inr (10, mo z 0 0 0 0 0 0 0 0 0 0 (-1) 0 0 0 0 0)), (z 1, aI V 3075 (upd (upd (upd (upd (upd (upd (upd (upd (upd (fun _ => 0) 52 1) 54 0) 55 0) 56 0) 57 0) 58 0) 59 0) 60 0) 53 1))] := hD
  exact fiV hx hb hr hlk hK hP hD hS dX10_notes_106 (Nat.le_of_ble_eq_true rfl) (Nat.le_of_ble_eq_true rfl) (rfl)
set_option maxHeartbeats 4000000 in
set_option maxRecDepth 100000 in
theorem c_X10_night_0 (l : Launch) (V : GV) (z : Nat → Nat) (p0 : Int32) : Ct l V yX10_night (.code yX10_night cX10_night 2 (some .int)) 4 [.ref (z 0), .int p0] [(z 0, .inr (10, mo z 0 0 0 0 0 0 0 0 0 0 (-1) 0 0 0 0 0)), (z 1, aI V 3075 (fun _ => 0)), (z 17, aI V 7 (fun _ => 0))] 0 0 (QI V (fun (r : Int32) (w : va_W) => (p0.toInt64 = 0 ∧ r = 0 ∧ w = [(z 17, aI V 7 (fun _ => 0)), (z 0, .inr (10, mo z 0 0 0 0 0 0 0 0 0 0 (-1) 0 0 0 0 0)), (z 1, aI V 3075 (upd (upd (upd (upd (upd (upd (upd (upd (upd (fun _ => 0) 52 1) 54 0) 55 0) 56 0) 57 0) 58 0) 59 0) 60 0) 53 1))]) ∨ ((¬ p0.toInt64 = 0) ∧ p0.toInt64 < 1 ∧ r = (-11) ∧ w = [(z 17, aI V 7 (fun _ => 0)), (z 0, .inr (10, mo z 0 0 0 0 0 0 0 0 0 0 (-1) 0 0 0 0 0)), (z 1, aI V 3075 (fun _ => 0))]) ∨ ((¬ p0.toInt64 = 0) ∧ (¬ p0.toInt64 < 1) ∧ (-1) < p0.toInt64 ∧ r = (-11) ∧ w = [(z 17, aI V 7 (fun _ => 0)), (z 0, .inr (10, mo z 0 0 0 0 0 0 0 0 0 0 (-1) 0 0 0 0 0)), (z 1, aI V 3075 (fun _ => 0))]))) := by
  refine Ct.of (by decide) (Nat.le_of_ble_eq_true rfl) (fun p e s m below meth c A ls hx hb hr hml hown hlk hnm hg hP hK hD hE hA hS hl => ?_)
  have hl : lv_has ls 2 [(0, .ref (z 0)), (1, .int p0)] := hl
  refine lv_aload_n hx hb dX10_night_0 rfl (lv_at hl 0 rfl) ?_
  refine lv_iconst (v := 0) hx hb dX10_night_1 (by decide) ?_
  refine va_put (ci := 10) (v := .int 0) (ty := .int) (C := RX10) (T := TX10) (N := 40) hx hb hg inX10 tyX10 tyX10_ok nmX10 hown hK hP hD hS 0 rfl rfl 0 (by decide) (hg _ q_5_224) (fun _ h9 => h9) rfl (by decide +kernel) rfl rfl (Nat.le_of_ble_eq_true rfl) dX10_night_2 (fun H locs hP hD hS => ?_)
  have hP : va_P V.1 vwCl [(z 0, .inr (10, mo z 0 0 0 0 0 0 0 0 0 0 (-1) 0 0 0 0 0)), (z 1, aI V 3075 (fun _ => 0)), (z 17, aI V 7 (fun _ => 0))] H := hP
  have hD : va_D A [(z 0, .inr (10, mo z 0 0 0 0 0 0 0 0 0 0 (-1) 0 0 0 0 0)), (z 1, aI V 3075 (fun _ => 0)), (z 17, aI V 7 (fun _ => 0))] := hD
  refine lv_aload_n hx hb dX10_night_5 rfl (lv_at hl 0 rfl) ?_
  refine lv_iload_n hx hb dX10_night_6 rfl (lv_at hl 1 rfl) ?_
  refine lv_i2l (v := p0.toInt64) hx hb dX10_night_7 rfl ?_
  refine jnI (wr := [(z 17, aI V 7 (fun _ => 0))]) (rnV (rest := []) ⟨hx, hb, hml, hown, hg⟩ (c_X10_isNight_0 l V z p0.toInt64) mt_X10_isNight q_7_7 ⟨Nat.le_of_ble_eq_true rfl, Nat.le_of_ble_eq_true rfl⟩ hK hP hD hS hA hE [0, 1] rfl rfl 0 rfl rfl rfl rfl hl.1 rfl (Nat.le_of_ble_eq_true rfl) dX10_night_8 ⟨Nat.le_of_ble_eq_true rfl, Nat.le_of_ble_eq_true rfl⟩) hP hD hS hA [0, 1] [2] rfl rfl rfl (by decide) (fun r_1 w H locs hw hP hD hS => ?_)
  rcases hw with ⟨c_2, rfl, rfl⟩ | ⟨c_3, c_4, rfl, rfl⟩ | ⟨c_5, c_6, c_7, rfl, rfl⟩
  · have hP : va_P V.1 vwCl [(z 17, aI V 7 (fun _ => 0)), (z 0, .inr (10, mo z 0 0 0 0 0 0 0 0 0 0 (-1) 0 0 0 0 0)), (z 1, aI V 3075 (fun _ => 0))] H := hP
    have hD : va_D A [(z 17, aI V 7 (fun _ => 0)), (z 0, .inr (10, mo z 0 0 0 0 0 0 0 0 0 0 (-1) 0 0 0 0 0)), (z 1, aI V 3075 (fun _ => 0))] := hD
    refine lv_if_ne (tgt := 17) hx hb dX10_night_11 (by decide) (fun _ => ?_) (fun c_8 => absurd c_8 (by decide))
    refine lv_aload_n hx hb dX10_night_17 rfl (lv_at hl 0 rfl) ?_
    refine jnV (wr := []) (rnV (rest := []) ⟨hx, hb, hml, hown, hg⟩ (c_X10_stores_0 l V z) mt_X10_stores q_7_60 ⟨Nat.le_of_ble_eq_true rfl, Nat.le_of_ble_eq_true rfl⟩ hK hP hD hS hA hE [0, 1, 2] rfl rfl 1 rfl rfl rfl rfl hl.1 rfl (Nat.le_of_ble_eq_true rfl) dX10_night_18 ⟨Nat.le_of_ble_eq_true rfl, Nat.le_of_ble_eq_true rfl⟩) hP hD hS hA [0, 1, 2] [] rfl rfl rfl (by decide) (fun  w H locs hw hP hD hS => ?_)
    subst hw
    have hP : va_P V.1 vwCl [(z 17, aI V 7 (fun _ => 0)), (z 0, .inr (10, mo z 0 0 0 0 0 0 0 0 0 0 (-1) 0 0 0 0 0)), (z 1, aI V 3075 (fun _ => 0))] H := hP
    have hD : va_D A [(z 17, aI V 7 (fun _ => 0)), (z 0, .inr (10, mo z 0 0 0 0 0 0 0 0 0 0 (-1) 0 0 0 0 0)), (z 1, aI V 3075 (fun _ => 0))] := hD
    refine lv_aload_n hx hb dX10_night_21 rfl (lv_at hl 0 rfl) ?_
    refine lv_iload_n hx hb dX10_night_22 rfl (lv_at hl 1 rfl) ?_
    refine jnV (wr := [(z 17, aI V 7 (fun _ => 0))]) (rnV (rest := []) ⟨hx, hb, hml, hown, hg⟩ (c_X10_goesNight_0 l V z p0) mt_X10_goesNight q_7_64 ⟨Nat.le_of_ble_eq_true rfl, Nat.le_of_ble_eq_true rfl⟩ hK hP hD hS hA hE [1, 2] rfl rfl 1 rfl rfl rfl rfl hl.1 rfl (Nat.le_of_ble_eq_true rfl) dX10_night_23 ⟨Nat.le_of_ble_eq_true rfl, Nat.le_of_ble_eq_true rfl⟩) hP hD hS hA [1, 2] [0] rfl rfl rfl (by decide) (fun  w H locs hw hP hD hS => ?_)
    subst hw
    have hP : va_P V.1 vwCl [(z 17, aI V 7 (fun _ => 0)), (z 0, .inr (10, mo z 0 0 0 0 0 0 0 0 0 0 (-1) 0 0 0 0 0)), (z 1, aI V 3075 (upd (fun _ => 0) 52 1))] H := hP
    have hD : va_D A [(z 17, aI V 7 (fun _ => 0)), (z 0, .inr (10, mo z 0 0 0 0 0 0 0 0 0 0 (-1) 0 0 0 0 0)), (z 1, aI V 3075 (upd (fun _ => 0) 52 1))] := hD
    refine lv_aload_n hx hb dX10_night_26 rfl (lv_at hl 0 rfl) ?_
    refine jnV (wr := []) (rnV (rest := []) ⟨hx, hb, hml, hown, hg⟩ (c_X10_notes_0 l V z) mt_X10_notes q_7_72 ⟨Nat.le_of_ble_eq_true rfl, Nat.le_of_ble_eq_true rfl⟩ hK hP hD hS hA hE [0, 1, 2] rfl rfl 1 rfl rfl rfl rfl hl.1 rfl (Nat.le_of_ble_eq_true rfl) dX10_night_27 ⟨Nat.le_of_ble_eq_true rfl, Nat.le_of_ble_eq_true rfl⟩) hP hD hS hA [0, 1, 2] [] rfl rfl rfl (by decide) (fun  w H locs hw hP hD hS => ?_)
    subst hw
    have hP : va_P V.1 vwCl [(z 17, aI V 7 (fun _ => 0)), (z 0, .inr (10, mo z 0 0 0 0 0 0 0 0 0 0 (-1) 0 0 0 0 0)), (z 1, aI V 3075 (upd (upd (upd (upd (upd (upd (upd (upd (upd (fun _ => 0) 52 1) 54 0) 55 0) 56 0) 57 0) 58 0) 59 0) 60 0) 53 1))] H := hP
    have hD : va_D A [(z 17, aI V 7 (fun _ => 0)), (z 0, .inr (10, mo z 0 0 0 0 0 0 0 0 0 0 (-1) 0 0 0 0 0)), (z 1, aI V 3075 (upd (upd (upd (upd (upd (upd (upd (upd (upd (fun _ => 0) 52 1) 54 0) 55 0) 56 0) 57 0) 58 0) 59 0) 60 0) 53 1))] := hD
    refine lv_aload_n hx hb dX10_night_30 rfl (lv_at hl 0 rfl) ?_
    refine va_get (ci := 10) (v := .ref (z 1)) (C := RX10) (T := TX10) (N := 40) hx hb hg inX10 hown hK hP 1 rfl rfl 1 (by decide) (hg _ q_5_225) (fun _ h9 => h9) rfl dX10_night_31 ?_
    refine lv_bipush (v := 50) hx hb dX10_night_34 (by decide) ?_
    refine va_iald hx hb hK hP 2 0 rfl rfl (vin (by decide +kernel)) dX10_night_36 ?_
    refine tpi (y := 0) (rfl) ?_
    exact fiI hx hb hr hlk hK hP hD hS dX10_night_37 (Nat.le_of_ble_eq_true rfl) (Nat.le_of_ble_eq_true rfl) (Or.inl ⟨c_2, rfl, rfl⟩)
  · have hP : va_P V.1 vwCl [(z 17, aI V 7 (fun _ => 0)), (z 0, .inr (10, mo z 0 0 0 0 0 0 0 0 0 0 (-1) 0 0 0 0 0)), (z 1, aI V 3075 (fun _ => 0))] H := hP
    have hD : va_D A [(z 17, aI V 7 (fun _ => 0)), (z 0, .inr (10, mo z 0 0 0 0 0 0 0 0 0 0 (-1) 0 0 0 0 0)), (z 1, aI V 3075 (fun _ => 0))] := hD
    refine lv_if_ne (tgt := 17) hx hb dX10_night_11 (by decide) (fun c_9 => absurd c_9 (by decide)) (fun _ => ?_)
    refine lv_bipush (v := (-11)) hx hb dX10_night_14 (by decide) ?_
    exact fiI hx hb hr hlk hK hP hD hS dX10_night_16 (Nat.le_of_ble_eq_true rfl) (Nat.le_of_ble_eq_true rfl) (Or.inr (Or.inl ⟨c_3, c_4, rfl, rfl⟩))
  · have hP : va_P V.1 vwCl [(z 17, aI V 7 (fun _ => 0)), (z 0, .inr (10, mo z 0 0 0 0 0 0 0 0 0 0 (-1) 0 0 0 0 0)), (z 1, aI V 3075 (fun _ => 0))] H := hP
    have hD : va_D A [(z 17, aI V 7 (fun _ => 0)), (z 0, .inr (10, mo z 0 0 0 0 0 0 0 0 0 0 (-1) 0 0 0 0 0)), (z 1, aI V 3075 (fun _ => 0))] := hD
    refine lv_if_ne (tgt := 17) hx hb dX10_night_11 (by decide) (fun c_10 => absurd c_10 (by decide)) (fun _ => ?_)
    refine lv_bipush (v := (-11)) hx hb dX10_night_14 (by decide) ?_
    exact fiI hx hb hr hlk hK hP hD hS dX10_night_16 (Nat.le_of_ble_eq_true rfl) (Nat.le_of_ble_eq_true rfl) (Or.inr (Or.inr (⟨c_5, c_6, c_7, rfl, rfl⟩)))
set_option maxHeartbeats 4000000 in
set_option maxRecDepth 100000 in
theorem c_X10_sumIn_0 (l : Launch) (V : GV) (z : Nat → Nat) : Ct l V yX10_sumIn (.code yX10_sumIn cX10_sumIn 4 (some .int)) 1 [.ref (z 0), .int 0] [(z 0, .inr (10, mo z 0 0 0 0 0 0 0 0 0 0 (-1) 0 0 0 0 0)), (z 1, aI V 3075 (fun _ => 0))] 0 0 (QI V (fun (r : Int32) (w : va_W) => (r = 0 ∧ w = [(z 0, .inr (10, mo z 0 0 0 0 0 0 0 0 0 0 (-1) 0 0 0 0 0)), (z 1, aI V 3075 (fun _ => 0))]))) := by
  refine Ct.of (by decide) (Nat.le_of_ble_eq_true rfl) (fun p e s m below meth c A ls hx hb hr hml hown hlk hnm hg hP hK hD hE hA hS hl => ?_)
  have hl : lv_has ls 4 [(0, .ref (z 0)), (1, .int 0)] := hl
  refine lv_iconst (v := 0) hx hb dX10_sumIn_0 (by decide) ?_
  refine lv_istore_n (lv' := [(2, .int 0), (0, .ref (z 0)), (1, .int 0)]) hx hb dX10_sumIn_1 rfl hl (by decide) rfl (fun ls hl => ?_)
  refine lv_iconst (v := 0) hx hb dX10_sumIn_2 (by decide) ?_
  refine lv_istore_n (lv' := [(3, .int 0), (2, .int 0), (0, .ref (z 0)), (1, .int 0)]) hx hb dX10_sumIn_3 rfl hl (by decide) rfl (fun ls hl => ?_)
  refine lv_iload_n hx hb dX10_sumIn_4 rfl (lv_at hl 0 rfl) ?_
  refine lv_aload_n hx hb dX10_sumIn_5 rfl (lv_at hl 2 rfl) ?_
  refine va_get (ci := 10) (v := .ref (z 1)) (C := RX10) (T := TX10) (N := 40) hx hb hg inX10 hown hK hP 0 rfl rfl 1 (by decide) (hg _ q_5_225) (fun _ h9 => h9) rfl dX10_sumIn_6 ?_
  refine lv_iconst (v := 1) hx hb dX10_sumIn_9 (by decide) ?_
  refine va_iald hx hb hK hP 1 0 rfl rfl (vin (by decide +kernel)) dX10_sumIn_10 ?_
  refine tpi (y := 0) (rfl) ?_
  refine lv_icmp_ge (tgt := 28) hx hb dX10_sumIn_11 (by decide) (fun _ => ?_) (fun c_1 => absurd c_1 (by decide))
  refine lv_iload_n hx hb dX10_sumIn_28 rfl (lv_at hl 1 rfl) ?_
  exact fiI hx hb hr hlk hK hP hD hS dX10_sumIn_29 (Nat.le_of_ble_eq_true rfl) (Nat.le_of_ble_eq_true rfl) (⟨rfl, rfl⟩)
set_option maxHeartbeats 4000000 in
set_option maxRecDepth 100000 in
theorem c_X10_count_0 (l : Launch) (V : GV) (z : Nat → Nat) (p0 : Int32) : Ct l V yX10_count (.code yX10_count cX10_count 2 (some .int)) 2 [.ref (z 0), .int p0] [(z 0, .inr (10, mo z 0 0 0 0 0 0 0 0 0 0 (-1) 0 0 0 0 0)), (z 1, aI V 3075 (fun _ => 0))] 0 0 (QI V (fun (r : Int32) (w : va_W) => (p0 = 0 ∧ r = 0 ∧ w = [(z 0, .inr (10, mo z 0 0 0 0 0 0 0 0 0 0 (-1) 0 0 0 0 0)), (z 1, aI V 3075 (fun _ => 0))]) ∨ ((¬ p0 = 0) ∧ p0 = 1 ∧ r = 0 ∧ w = [(z 0, .inr (10, mo z 0 0 0 0 0 0 0 0 0 0 (-1) 0 0 0 0 0)), (z 1, aI V 3075 (fun _ => 0))]) ∨ ((¬ p0 = 0) ∧ (¬ p0 = 1) ∧ p0 = 2 ∧ r = 0 ∧ w = [(z 0, .inr (10, mo z 0 0 0 0 0 0 0 0 0 0 (-1) 0 0 0 0 0)), (z 1, aI V 3075 (fun _ => 0))]) ∨ ((¬ p0 = 0) ∧ (¬ p0 = 1) ∧ (¬ p0 = 2) ∧ p0 = 3 ∧ r = 0 ∧ w = [(z 0, .inr (10, mo z 0 0 0 0 0 0 0 0 0 0 (-1) 0 0 0 0 0)), (z 1, aI V 3075 (fun _ => 0))]) ∨ ((¬ p0 = 0) ∧ (¬ p0 = 1) ∧ (¬ p0 = 2) ∧ (¬ p0 = 3) ∧ p0 = 4 ∧ r = 0 ∧ w = [(z 0, .inr (10, mo z 0 0 0 0 0 0 0 0 0 0 (-1) 0 0 0 0 0)), (z 1, aI V 3075 (fun _ => 0))]) ∨ ((¬ p0 = 0) ∧ (¬ p0 = 1) ∧ (¬ p0 = 2) ∧ (¬ p0 = 3) ∧ (¬ p0 = 4) ∧ p0 = 5 ∧ r = 0 ∧ w = [(z 0, .inr (10, mo z 0 0 0 0 0 0 0 0 0 0 (-1) 0 0 0 0 0)), (z 1, aI V 3075 (fun _ => 0))]) ∨ ((¬ p0 = 0) ∧ (¬ p0 = 1) ∧ (¬ p0 = 2) ∧ (¬ p0 = 3) ∧ (¬ p0 = 4) ∧ (¬ p0 = 5) ∧ p0 = 6 ∧ r = 0 ∧ w = [(z 0, .inr (10, mo z 0 0 0 0 0 0 0 0 0 0 (-1) 0 0 0 0 0)), (z 1, aI V 3075 (fun _ => 0))]) ∨ ((¬ p0 = 0) ∧ (¬ p0 = 1) ∧ (¬ p0 = 2) ∧ (¬ p0 = 3) ∧ (¬ p0 = 4) ∧ (¬ p0 = 5) ∧ (¬ p0 = 6) ∧ p0 = 7 ∧ r = 0 ∧ w = [(z 0, .inr (10, mo z 0 0 0 0 0 0 0 0 0 0 (-1) 0 0 0 0 0)), (z 1, aI V 3075 (fun _ => 0))]) ∨ ((¬ p0 = 0) ∧ (¬ p0 = 1) ∧ (¬ p0 = 2) ∧ (¬ p0 = 3) ∧ (¬ p0 = 4) ∧ (¬ p0 = 5) ∧ (¬ p0 = 6) ∧ (¬ p0 = 7) ∧ p0 = 8 ∧ r = 0 ∧ w = [(z 0, .inr (10, mo z 0 0 0 0 0 0 0 0 0 0 (-1) 0 0 0 0 0)), (z 1, aI V 3075 (fun _ => 0))]) ∨ ((¬ p0 = 0) ∧ (¬ p0 = 1) ∧ (¬ p0 = 2) ∧ (¬ p0 = 3) ∧ (¬ p0 = 4) ∧ (¬ p0 = 5) ∧ (¬ p0 = 6) ∧ (¬ p0 = 7) ∧ (¬ p0 = 8) ∧ p0 = 9 ∧ r = 0 ∧ w = [(z 0, .inr (10, mo z 0 0 0 0 0 0 0 0 0 0 (-1) 0 0 0 0 0)), (z 1, aI V 3075 (fun _ => 0))]) ∨ ((¬ p0 = 0) ∧ (¬ p0 = 1) ∧ (¬ p0 = 2) ∧ (¬ p0 = 3) ∧ (¬ p0 = 4) ∧ (¬ p0 = 5) ∧ (¬ p0 = 6) ∧ (¬ p0 = 7) ∧ (¬ p0 = 8) ∧ (¬ p0 = 9) ∧ r = (-1) ∧ w = [(z 0, .inr (10, mo z 0 0 0 0 0 0 0 0 0 0 (-1) 0 0 0 0 0)), (z 1, aI V 3075 (fun _ => 0))]))) := by
  refine Ct.of (by decide) (Nat.le_of_ble_eq_true rfl) (fun p e s m below meth c A ls hx hb hr hml hown hlk hnm hg hP hK hD hE hA hS hl => ?_)
  have hl : lv_has ls 2 [(0, .ref (z 0)), (1, .int p0)] := hl
  refine lv_aload_n hx hb dX10_count_0 rfl (lv_at hl 0 rfl) ?_
  refine lv_iconst (v := 0) hx hb dX10_count_1 (by decide) ?_
  refine va_put (ci := 10) (v := .int 0) (ty := .int) (C := RX10) (T := TX10) (N := 40) hx hb hg inX10 tyX10 tyX10_ok nmX10 hown hK hP hD hS 0 rfl rfl 0 (by decide) (hg _ q_5_224) (fun _ h9 => h9) rfl (by decide +kernel) rfl rfl (Nat.le_of_ble_eq_true rfl) dX10_count_2 (fun H locs hP hD hS => ?_)
  have hP : va_P V.1 vwCl [(z 0, .inr (10, mo z 0 0 0 0 0 0 0 0 0 0 (-1) 0 0 0 0 0)), (z 1, aI V 3075 (fun _ => 0))] H := hP
  have hD : va_D A [(z 0, .inr (10, mo z 0 0 0 0 0 0 0 0 0 0 (-1) 0 0 0 0 0)), (z 1, aI V 3075 (fun _ => 0))] := hD
  refine lv_iload_n hx hb dX10_count_5 rfl (lv_at hl 1 rfl) ?_
  by_cases c_1 : p0 = 0
  · refine lv_tableIn (off := 54) (tgt := 60) hx hb dX10_count_6 (by rw [c_1]; decide) (by rw [c_1]; decide) (by rw [c_1]; rfl) (by decide) ?_
    refine lv_aload_n hx hb dX10_count_60 rfl (lv_at hl 0 rfl) ?_
    refine va_get (ci := 10) (v := .ref (z 1)) (C := RX10) (T := TX10) (N := 40) hx hb hg inX10 hown hK hP 0 rfl rfl 1 (by decide) (hg _ q_5_225) (fun _ h9 => h9) rfl dX10_count_61 ?_
    refine lv_iconst (v := 1) hx hb dX10_count_64 (by decide) ?_
    refine va_iald hx hb hK hP 1 0 rfl rfl (vin (by decide +kernel)) dX10_count_65 ?_
    refine tpi (y := 0) (rfl) ?_
    exact fiI hx hb hr hlk hK hP hD hS dX10_count_66 (Nat.le_of_ble_eq_true rfl) (Nat.le_of_ble_eq_true rfl) (Or.inl ⟨c_1, rfl, rfl⟩)
  · by_cases c_2 : p0 = 1
    · refine lv_tableIn (off := 61) (tgt := 67) hx hb dX10_count_6 (by rw [c_2]; decide) (by rw [c_2]; decide) (by rw [c_2]; rfl) (by decide) ?_
      refine lv_aload_n hx hb dX10_count_67 rfl (lv_at hl 0 rfl) ?_
      refine va_get (ci := 10) (v := .ref (z 1)) (C := RX10) (T := TX10) (N := 40) hx hb hg inX10 hown hK hP 0 rfl rfl 1 (by decide) (hg _ q_5_225) (fun _ h9 => h9) rfl dX10_count_68 ?_
      refine lv_iconst (v := 2) hx hb dX10_count_71 (by decide) ?_
      refine va_iald hx hb hK hP 1 0 rfl rfl (vin (by decide +kernel)) dX10_count_72 ?_
      refine tpi (y := 0) (rfl) ?_
      exact fiI hx hb hr hlk hK hP hD hS dX10_count_73 (Nat.le_of_ble_eq_true rfl) (Nat.le_of_ble_eq_true rfl) (Or.inr (Or.inl ⟨c_1, c_2, rfl, rfl⟩))
    · by_cases c_3 : p0 = 2
      · refine lv_tableIn (off := 68) (tgt := 74) hx hb dX10_count_6 (by rw [c_3]; decide) (by rw [c_3]; decide) (by rw [c_3]; rfl) (by decide) ?_
        refine lv_aload_n hx hb dX10_count_74 rfl (lv_at hl 0 rfl) ?_
        refine va_get (ci := 10) (v := .ref (z 1)) (C := RX10) (T := TX10) (N := 40) hx hb hg inX10 hown hK hP 0 rfl rfl 1 (by decide) (hg _ q_5_225) (fun _ h9 => h9) rfl dX10_count_75 ?_
        refine lv_iconst (v := 3) hx hb dX10_count_78 (by decide) ?_
        refine va_iald hx hb hK hP 1 0 rfl rfl (vin (by decide +kernel)) dX10_count_79 ?_
        refine tpi (y := 0) (rfl) ?_
        exact fiI hx hb hr hlk hK hP hD hS dX10_count_80 (Nat.le_of_ble_eq_true rfl) (Nat.le_of_ble_eq_true rfl) (Or.inr (Or.inr (Or.inl ⟨c_1, c_2, c_3, rfl, rfl⟩)))
      · by_cases c_4 : p0 = 3
        · refine lv_tableIn (off := 75) (tgt := 81) hx hb dX10_count_6 (by rw [c_4]; decide) (by rw [c_4]; decide) (by rw [c_4]; rfl) (by decide) ?_
          refine lv_aload_n hx hb dX10_count_81 rfl (lv_at hl 0 rfl) ?_
          refine va_get (ci := 10) (v := .ref (z 1)) (C := RX10) (T := TX10) (N := 40) hx hb hg inX10 hown hK hP 0 rfl rfl 1 (by decide) (hg _ q_5_225) (fun _ h9 => h9) rfl dX10_count_82 ?_
          refine lv_bipush (v := 51) hx hb dX10_count_85 (by decide) ?_
          refine va_iald hx hb hK hP 1 0 rfl rfl (vin (by decide +kernel)) dX10_count_87 ?_
          refine tpi (y := 0) (rfl) ?_
          exact fiI hx hb hr hlk hK hP hD hS dX10_count_88 (Nat.le_of_ble_eq_true rfl) (Nat.le_of_ble_eq_true rfl) (Or.inr (Or.inr (Or.inr (Or.inl ⟨c_1, c_2, c_3, c_4, rfl, rfl⟩))))
        · by_cases c_5 : p0 = 4
          · refine lv_tableIn (off := 83) (tgt := 89) hx hb dX10_count_6 (by rw [c_5]; decide) (by rw [c_5]; decide) (by rw [c_5]; rfl) (by decide) ?_
            refine lv_aload_n hx hb dX10_count_89 rfl (lv_at hl 0 rfl) ?_
            refine lv_aload_n hx hb dX10_count_90 rfl (lv_at hl 0 rfl) ?_
            refine jnI (wr := []) (rnV (rest := [.ref (z 0)]) ⟨hx, hb, hml, hown, hg⟩ (c_X10_standNow_0 l V z) mt_X10_standNow q_7_11 ⟨Nat.le_of_ble_eq_true rfl, Nat.le_of_ble_eq_true rfl⟩ hK hP hD hS hA hE [0, 1] rfl rfl 0 rfl rfl rfl rfl hl.1 rfl (Nat.le_of_ble_eq_true rfl) dX10_count_91 ⟨Nat.le_of_ble_eq_true rfl, Nat.le_of_ble_eq_true rfl⟩) hP hD hS hA [0, 1] [] rfl rfl rfl (by decide) (fun r_6 w H locs hw hP hD hS => ?_)
            obtain ⟨rfl, rfl⟩ := hw
            have hP : va_P V.1 vwCl [(z 0, .inr (10, mo z 0 0 0 0 0 0 0 0 0 0 (-1) 0 0 0 0 0)), (z 1, aI V 3075 (fun _ => 0))] H := hP
            have hD : va_D A [(z 0, .inr (10, mo z 0 0 0 0 0 0 0 0 0 0 (-1) 0 0 0 0 0)), (z 1, aI V 3075 (fun _ => 0))] := hD
            refine jnI (wr := []) (rnV (rest := []) ⟨hx, hb, hml, hown, hg⟩ (c_X10_sumIn_0 l V z) mt_X10_sumIn q_7_131 ⟨Nat.le_of_ble_eq_true rfl, Nat.le_of_ble_eq_true rfl⟩ hK hP hD hS hA hE [0, 1] rfl rfl 0 rfl rfl rfl rfl hl.1 rfl (Nat.le_of_ble_eq_true rfl) dX10_count_94 ⟨Nat.le_of_ble_eq_true rfl, Nat.le_of_ble_eq_true rfl⟩) hP hD hS hA [0, 1] [] rfl rfl rfl (by decide) (fun r_7 w H locs hw hP hD hS => ?_)
            obtain ⟨rfl, rfl⟩ := hw
            have hP : va_P V.1 vwCl [(z 0, .inr (10, mo z 0 0 0 0 0 0 0 0 0 0 (-1) 0 0 0 0 0)), (z 1, aI V 3075 (fun _ => 0))] H := hP
            have hD : va_D A [(z 0, .inr (10, mo z 0 0 0 0 0 0 0 0 0 0 (-1) 0 0 0 0 0)), (z 1, aI V 3075 (fun _ => 0))] := hD
            exact fiI hx hb hr hlk hK hP hD hS dX10_count_97 (Nat.le_of_ble_eq_true rfl) (Nat.le_of_ble_eq_true rfl) (Or.inr (Or.inr (Or.inr (Or.inr (Or.inl ⟨c_1, c_2, c_3, c_4, c_5, rfl, rfl⟩)))))
          · by_cases c_8 : p0 = 5
            · refine lv_tableIn (off := 92) (tgt := 98) hx hb dX10_count_6 (by rw [c_8]; decide) (by rw [c_8]; decide) (by rw [c_8]; rfl) (by decide) ?_
              refine lv_aload_n hx hb dX10_count_98 rfl (lv_at hl 0 rfl) ?_
              refine va_get (ci := 10) (v := .ref (z 1)) (C := RX10) (T := TX10) (N := 40) hx hb hg inX10 hown hK hP 0 rfl rfl 1 (by decide) (hg _ q_5_225) (fun _ h9 => h9) rfl dX10_count_99 ?_
              refine lv_bipush (v := 50) hx hb dX10_count_102 (by decide) ?_
              refine va_iald hx hb hK hP 1 0 rfl rfl (vin (by decide +kernel)) dX10_count_104 ?_
              refine tpi (y := 0) (rfl) ?_
              exact fiI hx hb hr hlk hK hP hD hS dX10_count_105 (Nat.le_of_ble_eq_true rfl) (Nat.le_of_ble_eq_true rfl) (Or.inr (Or.inr (Or.inr (Or.inr (Or.inr (Or.inl ⟨c_1, c_2, c_3, c_4, c_5, c_8, rfl, rfl⟩))))))
            · by_cases c_9 : p0 = 6
              · refine lv_tableIn (off := 100) (tgt := 106) hx hb dX10_count_6 (by rw [c_9]; decide) (by rw [c_9]; decide) (by rw [c_9]; rfl) (by decide) ?_
                refine lv_aload_n hx hb dX10_count_106 rfl (lv_at hl 0 rfl) ?_
                refine va_get (ci := 10) (v := .ref (z 1)) (C := RX10) (T := TX10) (N := 40) hx hb hg inX10 hown hK hP 0 rfl rfl 1 (by decide) (hg _ q_5_225) (fun _ h9 => h9) rfl dX10_count_107 ?_
                refine lv_bipush (v := 52) hx hb dX10_count_110 (by decide) ?_
                refine va_iald hx hb hK hP 1 0 rfl rfl (vin (by decide +kernel)) dX10_count_112 ?_
                refine tpi (y := 0) (rfl) ?_
                exact fiI hx hb hr hlk hK hP hD hS dX10_count_113 (Nat.le_of_ble_eq_true rfl) (Nat.le_of_ble_eq_true rfl) (Or.inr (Or.inr (Or.inr (Or.inr (Or.inr (Or.inr (Or.inl ⟨c_1, c_2, c_3, c_4, c_5, c_8, c_9, rfl, rfl⟩)))))))
              · by_cases c_10 : p0 = 7
                · refine lv_tableIn (off := 108) (tgt := 114) hx hb dX10_count_6 (by rw [c_10]; decide) (by rw [c_10]; decide) (by rw [c_10]; rfl) (by decide) ?_
                  refine lv_aload_n hx hb dX10_count_114 rfl (lv_at hl 0 rfl) ?_
                  refine va_get (ci := 10) (v := .ref (z 1)) (C := RX10) (T := TX10) (N := 40) hx hb hg inX10 hown hK hP 0 rfl rfl 1 (by decide) (hg _ q_5_225) (fun _ h9 => h9) rfl dX10_count_115 ?_
                  refine lv_bipush (v := 53) hx hb dX10_count_118 (by decide) ?_
                  refine va_iald hx hb hK hP 1 0 rfl rfl (vin (by decide +kernel)) dX10_count_120 ?_
                  refine tpi (y := 0) (rfl) ?_
                  exact fiI hx hb hr hlk hK hP hD hS dX10_count_121 (Nat.le_of_ble_eq_true rfl) (Nat.le_of_ble_eq_true rfl) (Or.inr (Or.inr (Or.inr (Or.inr (Or.inr (Or.inr (Or.inr (Or.inl ⟨c_1, c_2, c_3, c_4, c_5, c_8, c_9, c_10, rfl, rfl⟩))))))))
                · by_cases c_11 : p0 = 8
                  · refine lv_tableIn (off := 116) (tgt := 122) hx hb dX10_count_6 (by rw [c_11]; decide) (by rw [c_11]; decide) (by rw [c_11]; rfl) (by decide) ?_
                    refine lv_aload_n hx hb dX10_count_122 rfl (lv_at hl 0 rfl) ?_
                    refine va_get (ci := 10) (v := .int 0) (C := RX10) (T := TX10) (N := 40) hx hb hg inX10 hown hK hP 0 rfl rfl 5 (by decide) (hg _ q_5_229) (fun _ h9 => h9) rfl dX10_count_123 ?_
                    exact fiI hx hb hr hlk hK hP hD hS dX10_count_126 (Nat.le_of_ble_eq_true rfl) (Nat.le_of_ble_eq_true rfl) (Or.inr (Or.inr (Or.inr (Or.inr (Or.inr (Or.inr (Or.inr (Or.inr (Or.inl ⟨c_1, c_2, c_3, c_4, c_5, c_8, c_9, c_10, c_11, rfl, rfl⟩)))))))))
                  · by_cases c_12 : p0 = 9
                    · refine lv_tableIn (off := 121) (tgt := 127) hx hb dX10_count_6 (by rw [c_12]; decide) (by rw [c_12]; decide) (by rw [c_12]; rfl) (by decide) ?_
                      refine lv_aload_n hx hb dX10_count_127 rfl (lv_at hl 0 rfl) ?_
                      refine va_get (ci := 10) (v := .ref (z 1)) (C := RX10) (T := TX10) (N := 40) hx hb hg inX10 hown hK hP 0 rfl rfl 1 (by decide) (hg _ q_5_225) (fun _ h9 => h9) rfl dX10_count_128 ?_
                      refine lv_iconst (v := 0) hx hb dX10_count_131 (by decide) ?_
                      refine va_iald hx hb hK hP 1 0 rfl rfl (vin (by decide +kernel)) dX10_count_132 ?_
                      refine tpi (y := 0) (rfl) ?_
                      exact fiI hx hb hr hlk hK hP hD hS dX10_count_133 (Nat.le_of_ble_eq_true rfl) (Nat.le_of_ble_eq_true rfl) (Or.inr (Or.inr (Or.inr (Or.inr (Or.inr (Or.inr (Or.inr (Or.inr (Or.inr (Or.inl ⟨c_1, c_2, c_3, c_4, c_5, c_8, c_9, c_10, c_11, c_12, rfl, rfl⟩))))))))))
                    · refine lv_tableOut (tgt := 134) hx hb dX10_count_6 ((Int.lt_or_le p0.toInt 0).elim Or.inl (fun c_13 => Or.inr (by simp only [tI_eq, (by decide : (0 : Int32).toInt = 0), (by decide : (1 : Int32).toInt = 1), (by decide : (2 : Int32).toInt = 2), (by decide : (3 : Int32).toInt = 3), (by decide : (4 : Int32).toInt = 4), (by decide : (5 : Int32).toInt = 5), (by decide : (6 : Int32).toInt = 6), (by decide : (7 : Int32).toInt = 7), (by decide : (8 : Int32).toInt = 8), (by decide : (9 : Int32).toInt = 9)] at c_1 c_2 c_3 c_4 c_5 c_8 c_9 c_10 c_11 c_12; omega))) (by decide) ?_
                      refine lv_iconst (v := (-1)) hx hb dX10_count_134 (by decide) ?_
                      exact fiI hx hb hr hlk hK hP hD hS dX10_count_135 (Nat.le_of_ble_eq_true rfl) (Nat.le_of_ble_eq_true rfl) (Or.inr (Or.inr (Or.inr (Or.inr (Or.inr (Or.inr (Or.inr (Or.inr (Or.inr (Or.inr (⟨c_1, c_2, c_3, c_4, c_5, c_8, c_9, c_10, c_11, c_12, rfl, rfl⟩)))))))))))
set_option maxHeartbeats 4000000 in
set_option maxRecDepth 100000 in
theorem c_X10_lit_0 (l : Launch) (V : GV) (z : Nat → Nat) (p0 : Int32) : Ct l V yX10_lit (.code yX10_lit cX10_lit 2 (some .int)) 3 [.ref (z 0), .int p0] [(z 0, .inr (10, mo z 0 0 0 0 0 0 0 0 0 0 (-1) 0 0 0 0 0)), (z 1, aI V 3075 (fun _ => 0))] 0 0 (QI V (fun (r : Int32) (w : va_W) => (r = (-2) ∧ w = [(z 0, .inr (10, mo z 0 0 0 0 0 0 0 0 0 0 (-1) 0 0 0 0 0)), (z 1, aI V 3075 (fun _ => 0))]))) := by
  refine Ct.of (by decide) (Nat.le_of_ble_eq_true rfl) (fun p e s m below meth c A ls hx hb hr hml hown hlk hnm hg hP hK hD hE hA hS hl => ?_)
  have hl : lv_has ls 2 [(0, .ref (z 0)), (1, .int p0)] := hl
  refine lv_aload_n hx hb dX10_lit_0 rfl (lv_at hl 0 rfl) ?_
  refine lv_iconst (v := 0) hx hb dX10_lit_1 (by decide) ?_
  refine va_put (ci := 10) (v := .int 0) (ty := .int) (C := RX10) (T := TX10) (N := 40) hx hb hg inX10 tyX10 tyX10_ok nmX10 hown hK hP hD hS 0 rfl rfl 0 (by decide) (hg _ q_5_224) (fun _ h9 => h9) rfl (by decide +kernel) rfl rfl (Nat.le_of_ble_eq_true rfl) dX10_lit_2 (fun H locs hP hD hS => ?_)
  have hP : va_P V.1 vwCl [(z 0, .inr (10, mo z 0 0 0 0 0 0 0 0 0 0 (-1) 0 0 0 0 0)), (z 1, aI V 3075 (fun _ => 0))] H := hP
  have hD : va_D A [(z 0, .inr (10, mo z 0 0 0 0 0 0 0 0 0 0 (-1) 0 0 0 0 0)), (z 1, aI V 3075 (fun _ => 0))] := hD
  refine lv_aload_n hx hb dX10_lit_5 rfl (lv_at hl 0 rfl) ?_
  refine lv_iload_n hx hb dX10_lit_6 rfl (lv_at hl 1 rfl) ?_
  refine lv_i2l (v := p0.toInt64) hx hb dX10_lit_7 rfl ?_
  refine jnI (wr := []) (rnV (rest := []) ⟨hx, hb, hml, hown, hg⟩ (c_X10_isHill_0 l V z p0.toInt64) mt_X10_isHill q_6_235 ⟨Nat.le_of_ble_eq_true rfl, Nat.le_of_ble_eq_true rfl⟩ hK hP hD hS hA hE [0, 1] rfl rfl 0 rfl rfl rfl rfl hl.1 rfl (Nat.le_of_ble_eq_true rfl) dX10_lit_8 ⟨Nat.le_of_ble_eq_true rfl, Nat.le_of_ble_eq_true rfl⟩) hP hD hS hA [0, 1] [] rfl rfl rfl (by decide) (fun r_1 w H locs hw hP hD hS => ?_)
  obtain ⟨rfl, rfl⟩ := hw
  have hP : va_P V.1 vwCl [(z 0, .inr (10, mo z 0 0 0 0 0 0 0 0 0 0 (-1) 0 0 0 0 0)), (z 1, aI V 3075 (fun _ => 0))] H := hP
  have hD : va_D A [(z 0, .inr (10, mo z 0 0 0 0 0 0 0 0 0 0 (-1) 0 0 0 0 0)), (z 1, aI V 3075 (fun _ => 0))] := hD
  refine lv_if_eq (tgt := 22) hx hb dX10_lit_11 (by decide) (fun _ => ?_) (fun c_2 => absurd c_2 (by decide))
  refine lv_bipush (v := (-2)) hx hb dX10_lit_22 (by decide) ?_
  exact fiI hx hb hr hlk hK hP hD hS dX10_lit_24 (Nat.le_of_ble_eq_true rfl) (Nat.le_of_ble_eq_true rfl) (⟨rfl, rfl⟩)
set_option maxHeartbeats 4000000 in
set_option maxRecDepth 100000 in
theorem c_X10_brightest_0 (l : Launch) (V : GV) (z : Nat → Nat) : Ct l V yX10_brightest (.code yX10_brightest cX10_brightest 4 (some .int)) 1 [.ref (z 0)] [(z 0, .inr (10, mo z 0 0 0 0 0 0 0 0 0 0 (-1) 0 0 0 0 0)), (z 1, aI V 3075 (fun _ => 0))] 0 0 (QI V (fun (r : Int32) (w : va_W) => (r = (-1) ∧ w = [(z 0, .inr (10, mo z 0 0 0 0 0 0 0 0 0 0 (-1) 0 0 0 0 0)), (z 1, aI V 3075 (fun _ => 0))]))) := by
  refine Ct.of (by decide) (Nat.le_of_ble_eq_true rfl) (fun p e s m below meth c A ls hx hb hr hml hown hlk hnm hg hP hK hD hE hA hS hl => ?_)
  have hl : lv_has ls 4 [(0, .ref (z 0))] := hl
  refine lv_aload_n hx hb dX10_brightest_0 rfl (lv_at hl 0 rfl) ?_
  refine lv_iconst (v := 0) hx hb dX10_brightest_1 (by decide) ?_
  refine va_put (ci := 10) (v := .int 0) (ty := .int) (C := RX10) (T := TX10) (N := 40) hx hb hg inX10 tyX10 tyX10_ok nmX10 hown hK hP hD hS 0 rfl rfl 0 (by decide) (hg _ q_5_224) (fun _ h9 => h9) rfl (by decide +kernel) rfl rfl (Nat.le_of_ble_eq_true rfl) dX10_brightest_2 (fun H locs hP hD hS => ?_)
  have hP : va_P V.1 vwCl [(z 0, .inr (10, mo z 0 0 0 0 0 0 0 0 0 0 (-1) 0 0 0 0 0)), (z 1, aI V 3075 (fun _ => 0))] H := hP
  have hD : va_D A [(z 0, .inr (10, mo z 0 0 0 0 0 0 0 0 0 0 (-1) 0 0 0 0 0)), (z 1, aI V 3075 (fun _ => 0))] := hD
  refine lv_iconst (v := (-1)) hx hb dX10_brightest_5 (by decide) ?_
  refine lv_istore_n (lv' := [(1, .int (-1)), (0, .ref (z 0))]) hx hb dX10_brightest_6 rfl hl (by decide) rfl (fun ls hl => ?_)
  refine lv_iconst (v := (-1)) hx hb dX10_brightest_7 (by decide) ?_
  refine lv_istore_n (lv' := [(2, .int (-1)), (1, .int (-1)), (0, .ref (z 0))]) hx hb dX10_brightest_8 rfl hl (by decide) rfl (fun ls hl => ?_)
  refine lv_iconst (v := 0) hx hb dX10_brightest_9 (by decide) ?_
  refine lv_istore_n (lv' := [(3, .int 0), (2, .int (-1)), (1, .int (-1)), (0, .ref (z 0))]) hx hb dX10_brightest_10 rfl hl (by decide) rfl (fun ls hl => ?_)
  refine lv_iload_n hx hb dX10_brightest_11 rfl (lv_at hl 0 rfl) ?_
  refine lv_aload_n hx hb dX10_brightest_12 rfl (lv_at hl 3 rfl) ?_
  refine va_get (ci := 10) (v := .ref (z 1)) (C := RX10) (T := TX10) (N := 40) hx hb hg inX10 hown hK hP 0 rfl rfl 1 (by decide) (hg _ q_5_225) (fun _ h9 => h9) rfl dX10_brightest_13 ?_
  refine lv_iconst (v := 1) hx hb dX10_brightest_16 (by decide) ?_
  refine va_iald hx hb hK hP 1 0 rfl rfl (vin (by decide +kernel)) dX10_brightest_17 ?_
  refine tpi (y := 0) (rfl) ?_
  refine lv_icmp_ge (tgt := 53) hx hb dX10_brightest_18 (by decide) (fun _ => ?_) (fun c_1 => absurd c_1 (by decide))
  refine lv_iload_n hx hb dX10_brightest_53 rfl (lv_at hl 2 rfl) ?_
  exact fiI hx hb hr hlk hK hP hD hS dX10_brightest_54 (Nat.le_of_ble_eq_true rfl) (Nat.le_of_ble_eq_true rfl) (⟨rfl, rfl⟩)
