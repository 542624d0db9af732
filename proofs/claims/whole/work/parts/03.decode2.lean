theorem dX4_limits_73 : decode cX4_limits 73 = .ok (.ireturn, 1) := by decide +kernel
theorem dX4_safe_0 : decode cX4_safe 0 = .ok (.aload_n 0, 1) := by decide +kernel
theorem dX4_safe_1 : decode cX4_safe 1 = .ok (.iload_n 1, 1) := by decide +kernel
theorem dX4_safe_2 : decode cX4_safe 2 = .ok (.invokevirtual 32, 3) := by decide +kernel
theorem dX4_safe_5 : decode cX4_safe 5 = .ok (.astore 4, 2) := by decide +kernel
theorem dX4_safe_7 : decode cX4_safe 7 = .ok (.aload 4, 2) := by decide +kernel
theorem dX4_safe_9 : decode cX4_safe 9 = .ok (.ifnull 16, 3) := by decide +kernel
theorem dX4_safe_12 : decode cX4_safe 12 = .ok (.dload_n 2, 1) := by decide +kernel
theorem dX4_safe_13 : decode cX4_safe 13 = .ok (.ldc2_w 60, 3) := by decide +kernel
theorem dX4_safe_16 : decode cX4_safe 16 = .ok (.ldc2_w 40, 3) := by decide +kernel
theorem dX4_safe_19 : decode cX4_safe 19 = .ok (.invokestatic 42, 3) := by decide +kernel
theorem dX4_safe_22 : decode cX4_safe 22 = .ok (.ifCond .ne 5, 3) := by decide +kernel
theorem dX4_safe_25 : decode cX4_safe 25 = .ok (.iconst 0, 1) := by decide +kernel
theorem dX4_safe_26 : decode cX4_safe 26 = .ok (.ireturn, 1) := by decide +kernel
theorem dX4_safe_27 : decode cX4_safe 27 = .ok (.aload 4, 2) := by decide +kernel
theorem dX4_safe_29 : decode cX4_safe 29 = .ok (.dload_n 2, 1) := by decide +kernel
theorem dX4_safe_30 : decode cX4_safe 30 = .ok (.putfield 62, 3) := by decide +kernel
theorem dX4_safe_33 : decode cX4_safe 33 = .ok (.iconst 1, 1) := by decide +kernel
theorem dX4_safe_34 : decode cX4_safe 34 = .ok (.ireturn, 1) := by decide +kernel
theorem dX4_tick_0 : decode cX4_tick 0 = .ok (.aload_n 0, 1) := by decide +kernel
theorem dX4_tick_1 : decode cX4_tick 1 = .ok (.iload_n 1, 1) := by decide +kernel
theorem dX4_tick_2 : decode cX4_tick 2 = .ok (.invokevirtual 32, 3) := by decide +kernel
theorem dX4_tick_5 : decode cX4_tick 5 = .ok (.astore 6, 2) := by decide +kernel
theorem dX4_tick_7 : decode cX4_tick 7 = .ok (.aload 6, 2) := by decide +kernel
theorem dX4_tick_9 : decode cX4_tick 9 = .ok (.ifnull 18, 3) := by decide +kernel
theorem dX4_tick_12 : decode cX4_tick 12 = .ok (.dload_n 2, 1) := by decide +kernel
theorem dX4_tick_13 : decode cX4_tick 13 = .ok (.invokestatic 65, 3) := by decide +kernel
theorem dX4_tick_16 : decode cX4_tick 16 = .ok (.ifCond .eq 11, 3) := by decide +kernel
theorem dX4_tick_19 : decode cX4_tick 19 = .ok (.dload 4, 2) := by decide +kernel
theorem dX4_tick_21 : decode cX4_tick 21 = .ok (.invokestatic 65, 3) := by decide +kernel
theorem dX4_tick_24 : decode cX4_tick 24 = .ok (.ifCond .ne 5, 3) := by decide +kernel
theorem dX4_tick_27 : decode cX4_tick 27 = .ok (.dconst 0, 1) := by decide +kernel
theorem dX4_tick_28 : decode cX4_tick 28 = .ok (.dreturn, 1) := by decide +kernel
theorem dX4_tick_29 : decode cX4_tick 29 = .ok (.aload 6, 2) := by decide +kernel
theorem dX4_tick_31 : decode cX4_tick 31 = .ok (.dload_n 2, 1) := by decide +kernel
theorem dX4_tick_32 : decode cX4_tick 32 = .ok (.dload 4, 2) := by decide +kernel
theorem dX4_tick_34 : decode cX4_tick 34 = .ok (.invokevirtual 68, 3) := by decide +kernel
theorem dX4_tick_37 : decode cX4_tick 37 = .ok (.aload 6, 2) := by decide +kernel
theorem dX4_tick_39 : decode cX4_tick 39 = .ok (.getfield 71, 3) := by decide +kernel
theorem dX4_tick_42 : decode cX4_tick 42 = .ok (.dreturn, 1) := by decide +kernel
theorem dX4_mode_0 : decode cX4_mode 0 = .ok (.aload_n 0, 1) := by decide +kernel
theorem dX4_mode_1 : decode cX4_mode 1 = .ok (.iload_n 1, 1) := by decide +kernel
theorem dX4_mode_2 : decode cX4_mode 2 = .ok (.invokevirtual 32, 3) := by decide +kernel
theorem dX4_mode_5 : decode cX4_mode 5 = .ok (.astore_n 3, 1) := by decide +kernel
theorem dX4_mode_6 : decode cX4_mode 6 = .ok (.aload_n 3, 1) := by decide +kernel
theorem dX4_mode_7 : decode cX4_mode 7 = .ok (.ifnull 12, 3) := by decide +kernel
theorem dX4_mode_10 : decode cX4_mode 10 = .ok (.iload_n 2, 1) := by decide +kernel
theorem dX4_mode_11 : decode cX4_mode 11 = .ok (.ifCond .lt 8, 3) := by decide +kernel
theorem dX4_mode_14 : decode cX4_mode 14 = .ok (.iload_n 2, 1) := by decide +kernel
theorem dX4_mode_15 : decode cX4_mode 15 = .ok (.iconst 2, 1) := by decide +kernel
theorem dX4_mode_16 : decode cX4_mode 16 = .ok (.if_icmp .le 5, 3) := by decide +kernel
theorem dX4_mode_19 : decode cX4_mode 19 = .ok (.iconst 0, 1) := by decide +kernel
theorem dX4_mode_20 : decode cX4_mode 20 = .ok (.ireturn, 1) := by decide +kernel
theorem dX4_mode_21 : decode cX4_mode 21 = .ok (.aload_n 3, 1) := by decide +kernel
theorem dX4_mode_22 : decode cX4_mode 22 = .ok (.iload_n 2, 1) := by decide +kernel
theorem dX4_mode_23 : decode cX4_mode 23 = .ok (.invokevirtual 74, 3) := by decide +kernel
theorem dX4_mode_26 : decode cX4_mode 26 = .ok (.iconst 1, 1) := by decide +kernel
theorem dX4_mode_27 : decode cX4_mode 27 = .ok (.ireturn, 1) := by decide +kernel
theorem dX4_hand_0 : decode cX4_hand 0 = .ok (.aload_n 0, 1) := by decide +kernel
theorem dX4_hand_1 : decode cX4_hand 1 = .ok (.iload_n 1, 1) := by decide +kernel
theorem dX4_hand_2 : decode cX4_hand 2 = .ok (.invokevirtual 32, 3) := by decide +kernel
theorem dX4_hand_5 : decode cX4_hand 5 = .ok (.astore 4, 2) := by decide +kernel
theorem dX4_hand_7 : decode cX4_hand 7 = .ok (.aload 4, 2) := by decide +kernel
theorem dX4_hand_9 : decode cX4_hand 9 = .ok (.ifnull 23, 3) := by decide +kernel
theorem dX4_hand_12 : decode cX4_hand 12 = .ok (.aload 4, 2) := by decide +kernel
theorem dX4_hand_14 : decode cX4_hand 14 = .ok (.getfield 78, 3) := by decide +kernel
theorem dX4_hand_17 : decode cX4_hand 17 = .ok (.ifCond .ne 15, 3) := by decide +kernel
theorem dX4_hand_20 : decode cX4_hand 20 = .ok (.aload 4, 2) := by decide +kernel
theorem dX4_hand_22 : decode cX4_hand 22 = .ok (.getfield 46, 3) := by decide +kernel
theorem dX4_hand_25 : decode cX4_hand 25 = .ok (.dload_n 2, 1) := by decide +kernel
theorem dX4_hand_26 : decode cX4_hand 26 = .ok (.invokevirtual 81, 3) := by decide +kernel
theorem dX4_hand_29 : decode cX4_hand 29 = .ok (.ifCond .ne 5, 3) := by decide +kernel
theorem dX4_hand_32 : decode cX4_hand 32 = .ok (.iconst 0, 1) := by decide +kernel
theorem dX4_hand_33 : decode cX4_hand 33 = .ok (.ireturn, 1) := by decide +kernel
theorem dX4_hand_34 : decode cX4_hand 34 = .ok (.aload 4, 2) := by decide +kernel
theorem dX4_hand_36 : decode cX4_hand 36 = .ok (.dload_n 2, 1) := by decide +kernel
theorem dX4_hand_37 : decode cX4_hand 37 = .ok (.putfield 84, 3) := by decide +kernel
theorem dX4_hand_40 : decode cX4_hand 40 = .ok (.iconst 1, 1) := by decide +kernel
theorem dX4_hand_41 : decode cX4_hand 41 = .ok (.ireturn, 1) := by decide +kernel
theorem dX4_cascade_0 : decode cX4_cascade 0 = .ok (.aload_n 0, 1) := by decide +kernel
theorem dX4_cascade_1 : decode cX4_cascade 1 = .ok (.iload_n 1, 1) := by decide +kernel
theorem dX4_cascade_2 : decode cX4_cascade 2 = .ok (.invokevirtual 32, 3) := by decide +kernel
theorem dX4_cascade_5 : decode cX4_cascade 5 = .ok (.astore_n 3, 1) := by decide +kernel
theorem dX4_cascade_6 : decode cX4_cascade 6 = .ok (.aload_n 0, 1) := by decide +kernel
theorem dX4_cascade_7 : decode cX4_cascade 7 = .ok (.iload_n 2, 1) := by decide +kernel
theorem dX4_cascade_8 : decode cX4_cascade 8 = .ok (.invokevirtual 32, 3) := by decide +kernel
theorem dX4_cascade_11 : decode cX4_cascade 11 = .ok (.astore 4, 2) := by decide +kernel
theorem dX4_cascade_13 : decode cX4_cascade 13 = .ok (.aload_n 3, 1) := by decide +kernel
theorem dX4_cascade_14 : decode cX4_cascade 14 = .ok (.ifnull 17, 3) := by decide +kernel
theorem dX4_cascade_17 : decode cX4_cascade 17 = .ok (.aload 4, 2) := by decide +kernel
theorem dX4_cascade_19 : decode cX4_cascade 19 = .ok (.ifnull 12, 3) := by decide +kernel
theorem dX4_cascade_22 : decode cX4_cascade 22 = .ok (.aload_n 3, 1) := by decide +kernel
theorem dX4_cascade_23 : decode cX4_cascade 23 = .ok (.aload 4, 2) := by decide +kernel
theorem dX4_cascade_25 : decode cX4_cascade 25 = .ok (.invokestatic 87, 3) := by decide +kernel
theorem dX4_cascade_28 : decode cX4_cascade 28 = .ok (.ifCond .eq 5, 3) := by decide +kernel
theorem dX4_cascade_31 : decode cX4_cascade 31 = .ok (.iconst 0, 1) := by decide +kernel
theorem dX4_cascade_32 : decode cX4_cascade 32 = .ok (.ireturn, 1) := by decide +kernel
theorem dX4_cascade_33 : decode cX4_cascade 33 = .ok (.aload 4, 2) := by decide +kernel
theorem dX4_cascade_35 : decode cX4_cascade 35 = .ok (.aload_n 3, 1) := by decide +kernel
theorem dX4_cascade_36 : decode cX4_cascade 36 = .ok (.putfield 91, 3) := by decide +kernel
theorem dX4_cascade_39 : decode cX4_cascade 39 = .ok (.iconst 1, 1) := by decide +kernel
theorem dX4_cascade_40 : decode cX4_cascade 40 = .ok (.ireturn, 1) := by decide +kernel
theorem dX4_split_0 : decode cX4_split 0 = .ok (.aload_n 0, 1) := by decide +kernel
theorem dX4_split_1 : decode cX4_split 1 = .ok (.iload_n 1, 1) := by decide +kernel
theorem dX4_split_2 : decode cX4_split 2 = .ok (.invokevirtual 32, 3) := by decide +kernel
theorem dX4_split_5 : decode cX4_split 5 = .ok (.astore 4, 2) := by decide +kernel
theorem dX4_split_7 : decode cX4_split 7 = .ok (.aload 4, 2) := by decide +kernel
theorem dX4_split_9 : decode cX4_split 9 = .ok (.ifnull 15, 3) := by decide +kernel
theorem dX4_split_12 : decode cX4_split 12 = .ok (.aload 4, 2) := by decide +kernel
theorem dX4_split_14 : decode cX4_split 14 = .ok (.getfield 46, 3) := by decide +kernel
theorem dX4_split_17 : decode cX4_split 17 = .ok (.dload_n 2, 1) := by decide +kernel
theorem dX4_split_18 : decode cX4_split 18 = .ok (.invokevirtual 95, 3) := by decide +kernel
theorem dX4_split_21 : decode cX4_split 21 = .ok (.ifCond .ne 5, 3) := by decide +kernel
theorem dX4_split_24 : decode cX4_split 24 = .ok (.iconst (-1), 1) := by decide +kernel
theorem dX4_split_25 : decode cX4_split 25 = .ok (.ireturn, 1) := by decide +kernel
theorem dX4_split_26 : decode cX4_split 26 = .ok (.aload_n 0, 1) := by decide +kernel
theorem dX4_split_27 : decode cX4_split 27 = .ok (.getfield 98, 3) := by decide +kernel
theorem dX4_split_30 : decode cX4_split 30 = .ok (.aload_n 0, 1) := by decide +kernel
theorem dX4_split_31 : decode cX4_split 31 = .ok (.getfield 17, 3) := by decide +kernel
theorem dX4_split_34 : decode cX4_split 34 = .ok (.arraylength, 1) := by decide +kernel
theorem dX4_split_35 : decode cX4_split 35 = .ok (.if_icmp .lt 6, 3) := by decide +kernel
theorem dX4_split_38 : decode cX4_split 38 = .ok (.bipush (-2), 2) := by decide +kernel
theorem dX4_split_40 : decode cX4_split 40 = .ok (.ireturn, 1) := by decide +kernel
theorem dX4_split_41 : decode cX4_split 41 = .ok (.aload_n 0, 1) := by decide +kernel
theorem dX4_split_42 : decode cX4_split 42 = .ok (.getfield 98, 3) := by decide +kernel
theorem dX4_split_45 : decode cX4_split 45 = .ok (.istore 5, 2) := by decide +kernel
theorem dX4_split_47 : decode cX4_split 47 = .ok (.aload_n 0, 1) := by decide +kernel
theorem dX4_split_48 : decode cX4_split 48 = .ok (.getfield 17, 3) := by decide +kernel
theorem dX4_split_51 : decode cX4_split 51 = .ok (.iload 5, 2) := by decide +kernel
theorem dX4_split_53 : decode cX4_split 53 = .ok (.new 15, 3) := by decide +kernel
theorem dX4_split_56 : decode cX4_split 56 = .ok (.dup, 1) := by decide +kernel
theorem dX4_split_57 : decode cX4_split 57 = .ok (.aload 4, 2) := by decide +kernel
theorem dX4_split_59 : decode cX4_split 59 = .ok (.dload_n 2, 1) := by decide +kernel
theorem dX4_split_60 : decode cX4_split 60 = .ok (.invokespecial 101, 3) := by decide +kernel
theorem dX4_split_63 : decode cX4_split 63 = .ok (.aastore, 1) := by decide +kernel
theorem dX4_split_64 : decode cX4_split 64 = .ok (.aload_n 0, 1) := by decide +kernel
theorem dX4_split_65 : decode cX4_split 65 = .ok (.iload 5, 2) := by decide +kernel
theorem dX4_split_67 : decode cX4_split 67 = .ok (.iconst 1, 1) := by decide +kernel
theorem dX4_split_68 : decode cX4_split 68 = .ok (.iadd, 1) := by decide +kernel
theorem dX4_split_69 : decode cX4_split 69 = .ok (.putfield 98, 3) := by decide +kernel
theorem dX4_split_72 : decode cX4_split 72 = .ok (.iload 5, 2) := by decide +kernel
theorem dX4_split_74 : decode cX4_split 74 = .ok (.ireturn, 1) := by decide +kernel
theorem dX4_part_0 : decode cX4_part 0 = .ok (.aload_n 0, 1) := by decide +kernel
theorem dX4_part_1 : decode cX4_part 1 = .ok (.iload_n 1, 1) := by decide +kernel
theorem dX4_part_2 : decode cX4_part 2 = .ok (.invokevirtual 104, 3) := by decide +kernel
theorem dX4_part_5 : decode cX4_part 5 = .ok (.astore_n 3, 1) := by decide +kernel
theorem dX4_part_6 : decode cX4_part 6 = .ok (.aload_n 3, 1) := by decide +kernel
theorem dX4_part_7 : decode cX4_part 7 = .ok (.ifnull 12, 3) := by decide +kernel
theorem dX4_part_10 : decode cX4_part 10 = .ok (.iload_n 2, 1) := by decide +kernel
theorem dX4_part_11 : decode cX4_part 11 = .ok (.ifCond .lt 8, 3) := by decide +kernel
theorem dX4_part_14 : decode cX4_part 14 = .ok (.iload_n 2, 1) := by decide +kernel
theorem dX4_part_15 : decode cX4_part 15 = .ok (.iconst 1, 1) := by decide +kernel
theorem dX4_part_16 : decode cX4_part 16 = .ok (.if_icmp .le 7, 3) := by decide +kernel
theorem dX4_part_19 : decode cX4_part 19 = .ok (.ldc2_w 108, 3) := by decide +kernel
theorem dX4_part_22 : decode cX4_part 22 = .ok (.dreturn, 1) := by decide +kernel
theorem dX4_part_23 : decode cX4_part 23 = .ok (.aload_n 3, 1) := by decide +kernel
theorem dX4_part_24 : decode cX4_part 24 = .ok (.iload_n 2, 1) := by decide +kernel
theorem dX4_part_25 : decode cX4_part 25 = .ok (.invokevirtual 110, 3) := by decide +kernel
theorem dX4_part_28 : decode cX4_part 28 = .ok (.dreturn, 1) := by decide +kernel
theorem dX4_band_0 : decode cX4_band 0 = .ok (.aload_n 0, 1) := by decide +kernel
theorem dX4_band_1 : decode cX4_band 1 = .ok (.iload_n 1, 1) := by decide +kernel
theorem dX4_band_2 : decode cX4_band 2 = .ok (.invokevirtual 32, 3) := by decide +kernel
theorem dX4_band_5 : decode cX4_band 5 = .ok (.astore 6, 2) := by decide +kernel
theorem dX4_band_7 : decode cX4_band 7 = .ok (.aload 6, 2) := by decide +kernel
theorem dX4_band_9 : decode cX4_band 9 = .ok (.ifnull 15, 3) := by decide +kernel
theorem dX4_band_12 : decode cX4_band 12 = .ok (.dload_n 2, 1) := by decide +kernel
theorem dX4_band_13 : decode cX4_band 13 = .ok (.dload 4, 2) := by decide +kernel
theorem dX4_band_15 : decode cX4_band 15 = .ok (.sipush 10000, 3) := by decide +kernel
theorem dX4_band_18 : decode cX4_band 18 = .ok (.invokestatic 36, 3) := by decide +kernel
theorem dX4_band_21 : decode cX4_band 21 = .ok (.ifCond .ne 5, 3) := by decide +kernel
theorem dX4_band_24 : decode cX4_band 24 = .ok (.iconst 0, 1) := by decide +kernel
theorem dX4_band_25 : decode cX4_band 25 = .ok (.ireturn, 1) := by decide +kernel
theorem dX4_band_26 : decode cX4_band 26 = .ok (.aload 6, 2) := by decide +kernel
theorem dX4_band_28 : decode cX4_band 28 = .ok (.getfield 114, 3) := by decide +kernel
theorem dX4_band_31 : decode cX4_band 31 = .ok (.dload_n 2, 1) := by decide +kernel
theorem dX4_band_32 : decode cX4_band 32 = .ok (.dload 4, 2) := by decide +kernel
theorem dX4_band_34 : decode cX4_band 34 = .ok (.invokevirtual 50, 3) := by decide +kernel
theorem dX4_band_37 : decode cX4_band 37 = .ok (.iconst 1, 1) := by decide +kernel
theorem dX4_band_38 : decode cX4_band 38 = .ok (.ireturn, 1) := by decide +kernel
theorem dX4_tune_0 : decode cX4_tune 0 = .ok (.aload_n 0, 1) := by decide +kernel
theorem dX4_tune_1 : decode cX4_tune 1 = .ok (.iload_n 1, 1) := by decide +kernel
theorem dX4_tune_2 : decode cX4_tune 2 = .ok (.invokevirtual 32, 3) := by decide +kernel
theorem dX4_tune_5 : decode cX4_tune 5 = .ok (.astore_n 3, 1) := by decide +kernel
theorem dX4_tune_6 : decode cX4_tune 6 = .ok (.aload_n 3, 1) := by decide +kernel
theorem dX4_tune_7 : decode cX4_tune 7 = .ok (.ifnull 15, 3) := by decide +kernel
theorem dX4_tune_10 : decode cX4_tune 10 = .ok (.iload_n 2, 1) := by decide +kernel
theorem dX4_tune_11 : decode cX4_tune 11 = .ok (.iconst 1, 1) := by decide +kernel
theorem dX4_tune_12 : decode cX4_tune 12 = .ok (.if_icmp .lt 10, 3) := by decide +kernel
theorem dX4_tune_15 : decode cX4_tune 15 = .ok (.iload_n 2, 1) := by decide +kernel
theorem dX4_tune_16 : decode cX4_tune 16 = .ok (.sipush 10000, 3) := by decide +kernel
theorem dX4_tune_19 : decode cX4_tune 19 = .ok (.if_icmp .le 5, 3) := by decide +kernel
theorem dX4_tune_22 : decode cX4_tune 22 = .ok (.iconst (-1), 1) := by decide +kernel
theorem dX4_tune_23 : decode cX4_tune 23 = .ok (.ireturn, 1) := by decide +kernel
theorem dX4_tune_24 : decode cX4_tune 24 = .ok (.aload_n 3, 1) := by decide +kernel
theorem dX4_tune_25 : decode cX4_tune 25 = .ok (.getfield 117, 3) := by decide +kernel
theorem dX4_tune_28 : decode cX4_tune 28 = .ok (.iload_n 2, 1) := by decide +kernel
theorem dX4_tune_29 : decode cX4_tune 29 = .ok (.invokevirtual 121, 3) := by decide +kernel
theorem dX4_tune_32 : decode cX4_tune 32 = .ok (.ireturn, 1) := by decide +kernel
theorem dX4_tuned_0 : decode cX4_tuned 0 = .ok (.aload_n 0, 1) := by decide +kernel
theorem dX4_tuned_1 : decode cX4_tuned 1 = .ok (.iload_n 1, 1) := by decide +kernel
theorem dX4_tuned_2 : decode cX4_tuned 2 = .ok (.invokevirtual 32, 3) := by decide +kernel
theorem dX4_tuned_5 : decode cX4_tuned 5 = .ok (.astore_n 3, 1) := by decide +kernel
theorem dX4_tuned_6 : decode cX4_tuned 6 = .ok (.aload_n 3, 1) := by decide +kernel
theorem dX4_tuned_7 : decode cX4_tuned 7 = .ok (.ifnonnull 7, 3) := by decide +kernel
theorem dX4_tuned_10 : decode cX4_tuned 10 = .ok (.dconst 0, 1) := by decide +kernel
theorem dX4_tuned_11 : decode cX4_tuned 11 = .ok (.goto 11, 3) := by decide +kernel
theorem dX4_tuned_14 : decode cX4_tuned 14 = .ok (.aload_n 3, 1) := by decide +kernel
theorem dX4_tuned_15 : decode cX4_tuned 15 = .ok (.getfield 117, 3) := by decide +kernel
theorem dX4_tuned_18 : decode cX4_tuned 18 = .ok (.iload_n 2, 1) := by decide +kernel
theorem dX4_tuned_19 : decode cX4_tuned 19 = .ok (.invokevirtual 127, 3) := by decide +kernel
theorem dX4_tuned_22 : decode cX4_tuned 22 = .ok (.dreturn, 1) := by decide +kernel
theorem dX4_fault_0 : decode cX4_fault 0 = .ok (.aload_n 0, 1) := by decide +kernel
theorem dX4_fault_1 : decode cX4_fault 1 = .ok (.iload_n 1, 1) := by decide +kernel
theorem dX4_fault_2 : decode cX4_fault 2 = .ok (.invokevirtual 32, 3) := by decide +kernel
theorem dX4_fault_5 : decode cX4_fault 5 = .ok (.astore_n 2, 1) := by decide +kernel
theorem dX4_fault_6 : decode cX4_fault 6 = .ok (.aload_n 2, 1) := by decide +kernel
theorem dX4_fault_7 : decode cX4_fault 7 = .ok (.ifnonnull 7, 3) := by decide +kernel
theorem dX4_fault_10 : decode cX4_fault 10 = .ok (.iconst (-1), 1) := by decide +kernel
theorem dX4_fault_11 : decode cX4_fault 11 = .ok (.goto 7, 3) := by decide +kernel
theorem dX4_fault_14 : decode cX4_fault 14 = .ok (.aload_n 2, 1) := by decide +kernel
theorem dX4_fault_15 : decode cX4_fault 15 = .ok (.getfield 130, 3) := by decide +kernel
theorem dX4_fault_18 : decode cX4_fault 18 = .ok (.ireturn, 1) := by decide +kernel
theorem dX4_range_0 : decode cX4_range 0 = .ok (.aload_n 0, 1) := by decide +kernel
theorem dX4_range_1 : decode cX4_range 1 = .ok (.iload_n 1, 1) := by decide +kernel
theorem dX4_range_2 : decode cX4_range 2 = .ok (.invokevirtual 32, 3) := by decide +kernel
theorem dX4_range_5 : decode cX4_range 5 = .ok (.astore 6, 2) := by decide +kernel
theorem dX4_range_7 : decode cX4_range 7 = .ok (.aload 6, 2) := by decide +kernel
theorem dX4_range_9 : decode cX4_range 9 = .ok (.ifnull 14, 3) := by decide +kernel
theorem dX4_range_12 : decode cX4_range 12 = .ok (.dload_n 2, 1) := by decide +kernel
theorem dX4_range_13 : decode cX4_range 13 = .ok (.dload 4, 2) := by decide +kernel
theorem dX4_range_15 : decode cX4_range 15 = .ok (.ldc 133, 2) := by decide +kernel
theorem dX4_range_17 : decode cX4_range 17 = .ok (.invokestatic 36, 3) := by decide +kernel
theorem dX4_range_20 : decode cX4_range 20 = .ok (.ifCond .ne 5, 3) := by decide +kernel
theorem dX4_range_23 : decode cX4_range 23 = .ok (.iconst 0, 1) := by decide +kernel
theorem dX4_range_24 : decode cX4_range 24 = .ok (.ireturn, 1) := by decide +kernel
theorem dX4_range_25 : decode cX4_range 25 = .ok (.aload 6, 2) := by decide +kernel
theorem dX4_range_27 : decode cX4_range 27 = .ok (.getfield 134, 3) := by decide +kernel
theorem dX4_range_30 : decode cX4_range 30 = .ok (.dload_n 2, 1) := by decide +kernel
theorem dX4_range_31 : decode cX4_range 31 = .ok (.dload 4, 2) := by decide +kernel
theorem dX4_range_33 : decode cX4_range 33 = .ok (.invokevirtual 50, 3) := by decide +kernel
theorem dX4_range_36 : decode cX4_range 36 = .ok (.iconst 1, 1) := by decide +kernel
theorem dX4_range_37 : decode cX4_range 37 = .ok (.ireturn, 1) := by decide +kernel
theorem dX4_findLoop_0 : decode cX4_findLoop 0 = .ok (.iload_n 1, 1) := by decide +kernel
theorem dX4_findLoop_1 : decode cX4_findLoop 1 = .ok (.ifCond .lt 12, 3) := by decide +kernel
theorem dX4_findLoop_4 : decode cX4_findLoop 4 = .ok (.iload_n 1, 1) := by decide +kernel
theorem dX4_findLoop_5 : decode cX4_findLoop 5 = .ok (.aload_n 0, 1) := by decide +kernel
theorem dX4_findLoop_6 : decode cX4_findLoop 6 = .ok (.getfield 11, 3) := by decide +kernel
theorem dX4_findLoop_9 : decode cX4_findLoop 9 = .ok (.arraylength, 1) := by decide +kernel
theorem dX4_findLoop_10 : decode cX4_findLoop 10 = .ok (.if_icmp .lt 7, 3) := by decide +kernel
theorem dX4_findLoop_13 : decode cX4_findLoop 13 = .ok (.aconst_null, 1) := by decide +kernel
theorem dX4_findLoop_14 : decode cX4_findLoop 14 = .ok (.goto 9, 3) := by decide +kernel
theorem dX4_findLoop_17 : decode cX4_findLoop 17 = .ok (.aload_n 0, 1) := by decide +kernel
theorem dX4_findLoop_18 : decode cX4_findLoop 18 = .ok (.getfield 11, 3) := by decide +kernel
theorem dX4_findLoop_21 : decode cX4_findLoop 21 = .ok (.iload_n 1, 1) := by decide +kernel
theorem dX4_findLoop_22 : decode cX4_findLoop 22 = .ok (.aaload, 1) := by decide +kernel
theorem dX4_findLoop_23 : decode cX4_findLoop 23 = .ok (.areturn, 1) := by decide +kernel
theorem dX4_findSplit_0 : decode cX4_findSplit 0 = .ok (.iload_n 1, 1) := by decide +kernel
theorem dX4_findSplit_1 : decode cX4_findSplit 1 = .ok (.ifCond .lt 12, 3) := by decide +kernel
theorem dX4_findSplit_4 : decode cX4_findSplit 4 = .ok (.iload_n 1, 1) := by decide +kernel
theorem dX4_findSplit_5 : decode cX4_findSplit 5 = .ok (.aload_n 0, 1) := by decide +kernel
theorem dX4_findSplit_6 : decode cX4_findSplit 6 = .ok (.getfield 17, 3) := by decide +kernel
theorem dX4_findSplit_9 : decode cX4_findSplit 9 = .ok (.arraylength, 1) := by decide +kernel
theorem dX4_findSplit_10 : decode cX4_findSplit 10 = .ok (.if_icmp .lt 7, 3) := by decide +kernel
theorem dX4_findSplit_13 : decode cX4_findSplit 13 = .ok (.aconst_null, 1) := by decide +kernel
theorem dX4_findSplit_14 : decode cX4_findSplit 14 = .ok (.goto 9, 3) := by decide +kernel
theorem dX4_findSplit_17 : decode cX4_findSplit 17 = .ok (.aload_n 0, 1) := by decide +kernel
theorem dX4_findSplit_18 : decode cX4_findSplit 18 = .ok (.getfield 17, 3) := by decide +kernel
theorem dX4_findSplit_21 : decode cX4_findSplit 21 = .ok (.iload_n 1, 1) := by decide +kernel
theorem dX4_findSplit_22 : decode cX4_findSplit 22 = .ok (.aaload, 1) := by decide +kernel
theorem dX4_findSplit_23 : decode cX4_findSplit 23 = .ok (.areturn, 1) := by decide +kernel
theorem dX4_isWithin_0 : decode cX4_isWithin 0 = .ok (.dload_n 0, 1) := by decide +kernel
theorem dX4_isWithin_1 : decode cX4_isWithin 1 = .ok (.dload_n 2, 1) := by decide +kernel
theorem dX4_isWithin_2 : decode cX4_isWithin 2 = .ok (.dcmp .l, 1) := by decide +kernel
theorem dX4_isWithin_3 : decode cX4_isWithin 3 = .ok (.ifCond .lt 14, 3) := by decide +kernel
theorem dX4_isWithin_6 : decode cX4_isWithin 6 = .ok (.dload_n 0, 1) := by decide +kernel
theorem dX4_isWithin_7 : decode cX4_isWithin 7 = .ok (.dload 4, 2) := by decide +kernel
theorem dX4_isWithin_9 : decode cX4_isWithin 9 = .ok (.dcmp .g, 1) := by decide +kernel
theorem dX4_isWithin_10 : decode cX4_isWithin 10 = .ok (.ifCond .gt 7, 3) := by decide +kernel
theorem dX4_isWithin_13 : decode cX4_isWithin 13 = .ok (.iconst 1, 1) := by decide +kernel
theorem dX4_isWithin_14 : decode cX4_isWithin 14 = .ok (.goto 4, 3) := by decide +kernel
theorem dX4_isWithin_17 : decode cX4_isWithin 17 = .ok (.iconst 0, 1) := by decide +kernel
theorem dX4_isWithin_18 : decode cX4_isWithin 18 = .ok (.ireturn, 1) := by decide +kernel
theorem dX4_isGain_0 : decode cX4_isGain 0 = .ok (.dload_n 0, 1) := by decide +kernel
theorem dX4_isGain_1 : decode cX4_isGain 1 = .ok (.dconst 0, 1) := by decide +kernel
theorem dX4_isGain_2 : decode cX4_isGain 2 = .ok (.ldc2_w 137, 3) := by decide +kernel
theorem dX4_isGain_5 : decode cX4_isGain 5 = .ok (.invokestatic 42, 3) := by decide +kernel
theorem dX4_isGain_8 : decode cX4_isGain 8 = .ok (.ireturn, 1) := by decide +kernel
theorem dX4_isReading_0 : decode cX4_isReading 0 = .ok (.dload_n 0, 1) := by decide +kernel
theorem dX4_isReading_1 : decode cX4_isReading 1 = .ok (.ldc2_w 139, 3) := by decide +kernel
theorem dX4_isReading_4 : decode cX4_isReading 4 = .ok (.ldc2_w 141, 3) := by decide +kernel
theorem dX4_isReading_7 : decode cX4_isReading 7 = .ok (.invokestatic 42, 3) := by decide +kernel
theorem dX4_isReading_10 : decode cX4_isReading 10 = .ok (.ireturn, 1) := by decide +kernel
theorem dX4_isOrdered_0 : decode cX4_isOrdered 0 = .ok (.dload_n 0, 1) := by decide +kernel
theorem dX4_isOrdered_1 : decode cX4_isOrdered 1 = .ok (.iload 4, 2) := by decide +kernel
theorem dX4_isOrdered_3 : decode cX4_isOrdered 3 = .ok (.ineg, 1) := by decide +kernel
theorem dX4_isOrdered_4 : decode cX4_isOrdered 4 = .ok (.i2d, 1) := by decide +kernel
theorem dX4_isOrdered_5 : decode cX4_isOrdered 5 = .ok (.dcmp .l, 1) := by decide +kernel
theorem dX4_isOrdered_6 : decode cX4_isOrdered 6 = .ok (.ifCond .lt 21, 3) := by decide +kernel
theorem dX4_isOrdered_9 : decode cX4_isOrdered 9 = .ok (.dload_n 0, 1) := by decide +kernel
theorem dX4_isOrdered_10 : decode cX4_isOrdered 10 = .ok (.dload_n 2, 1) := by decide +kernel
theorem dX4_isOrdered_11 : decode cX4_isOrdered 11 = .ok (.dcmp .g, 1) := by decide +kernel
theorem dX4_isOrdered_12 : decode cX4_isOrdered 12 = .ok (.ifCond .gt 15, 3) := by decide +kernel
theorem dX4_isOrdered_15 : decode cX4_isOrdered 15 = .ok (.dload_n 2, 1) := by decide +kernel
theorem dX4_isOrdered_16 : decode cX4_isOrdered 16 = .ok (.iload 4, 2) := by decide +kernel
theorem dX4_isOrdered_18 : decode cX4_isOrdered 18 = .ok (.i2d, 1) := by decide +kernel
theorem dX4_isOrdered_19 : decode cX4_isOrdered 19 = .ok (.dcmp .g, 1) := by decide +kernel
theorem dX4_isOrdered_20 : decode cX4_isOrdered 20 = .ok (.ifCond .gt 7, 3) := by decide +kernel
theorem dX4_isOrdered_23 : decode cX4_isOrdered 23 = .ok (.iconst 1, 1) := by decide +kernel
theorem dX4_isOrdered_24 : decode cX4_isOrdered 24 = .ok (.goto 4, 3) := by decide +kernel
theorem dX4_isOrdered_27 : decode cX4_isOrdered 27 = .ok (.iconst 0, 1) := by decide +kernel
theorem dX4_isOrdered_28 : decode cX4_isOrdered 28 = .ok (.ireturn, 1) := by decide +kernel
theorem dX4_isLed_0 : decode cX4_isLed 0 = .ok (.aload_n 0, 1) := by decide +kernel
theorem dX4_isLed_1 : decode cX4_isLed 1 = .ok (.astore_n 2, 1) := by decide +kernel
theorem dX4_isLed_2 : decode cX4_isLed 2 = .ok (.iconst 0, 1) := by decide +kernel
theorem dX4_isLed_3 : decode cX4_isLed 3 = .ok (.istore_n 3, 1) := by decide +kernel
theorem dX4_isLed_4 : decode cX4_isLed 4 = .ok (.iload_n 3, 1) := by decide +kernel
theorem dX4_isLed_5 : decode cX4_isLed 5 = .ok (.bipush 16, 2) := by decide +kernel
theorem dX4_isLed_7 : decode cX4_isLed 7 = .ok (.if_icmp .ge 25, 3) := by decide +kernel
theorem dX4_isLed_10 : decode cX4_isLed 10 = .ok (.aload_n 2, 1) := by decide +kernel
theorem dX4_isLed_11 : decode cX4_isLed 11 = .ok (.ifnull 21, 3) := by decide +kernel
theorem dX4_isLed_14 : decode cX4_isLed 14 = .ok (.aload_n 2, 1) := by decide +kernel
theorem dX4_isLed_15 : decode cX4_isLed 15 = .ok (.aload_n 1, 1) := by decide +kernel
theorem dX4_isLed_16 : decode cX4_isLed 16 = .ok (.if_acmp .ne 5, 3) := by decide +kernel
theorem dX4_isLed_19 : decode cX4_isLed 19 = .ok (.iconst 1, 1) := by decide +kernel
theorem dX4_isLed_20 : decode cX4_isLed 20 = .ok (.ireturn, 1) := by decide +kernel
theorem dX4_isLed_21 : decode cX4_isLed 21 = .ok (.aload_n 2, 1) := by decide +kernel
theorem dX4_isLed_22 : decode cX4_isLed 22 = .ok (.getfield 91, 3) := by decide +kernel
theorem dX4_isLed_25 : decode cX4_isLed 25 = .ok (.astore_n 2, 1) := by decide +kernel
theorem dX4_isLed_26 : decode cX4_isLed 26 = .ok (.iinc 3 1, 3) := by decide +kernel
theorem dX4_isLed_29 : decode cX4_isLed 29 = .ok (.goto (-25), 3) := by decide +kernel
theorem dX4_isLed_32 : decode cX4_isLed 32 = .ok (.iconst 0, 1) := by decide +kernel
theorem dX4_isLed_33 : decode cX4_isLed 33 = .ok (.ireturn, 1) := by decide +kernel
theorem dX5_init_0 : decode cX5_init 0 = .ok (.aload_n 0, 1) := by decide +kernel
theorem dX5_init_1 : decode cX5_init 1 = .ok (.invokespecial 1, 3) := by decide +kernel
theorem dX5_init_4 : decode cX5_init 4 = .ok (.aload_n 0, 1) := by decide +kernel
theorem dX5_init_5 : decode cX5_init 5 = .ok (.bipush 16, 2) := by decide +kernel
theorem dX5_init_7 : decode cX5_init 7 = .ok (.newarray .double, 2) := by decide +kernel
theorem dX5_init_9 : decode cX5_init 9 = .ok (.putfield 9, 3) := by decide +kernel
theorem dX5_init_12 : decode cX5_init 12 = .ok (.aload_n 0, 1) := by decide +kernel
theorem dX5_init_13 : decode cX5_init 13 = .ok (.bipush 16, 2) := by decide +kernel
theorem dX5_init_15 : decode cX5_init 15 = .ok (.newarray .double, 2) := by decide +kernel
theorem dX5_init_17 : decode cX5_init 17 = .ok (.putfield 13, 3) := by decide +kernel
theorem dX5_init_20 : decode cX5_init 20 = .ok (.aload_n 0, 1) := by decide +kernel
theorem dX5_init_21 : decode cX5_init 21 = .ok (.bipush 16, 2) := by decide +kernel
theorem dX5_init_23 : decode cX5_init 23 = .ok (.newarray .double, 2) := by decide +kernel
theorem dX5_init_25 : decode cX5_init 25 = .ok (.putfield 16, 3) := by decide +kernel
theorem dX5_init_28 : decode cX5_init 28 = .ok (.aload_n 0, 1) := by decide +kernel
theorem dX5_init_29 : decode cX5_init 29 = .ok (.bipush 16, 2) := by decide +kernel
theorem dX5_init_31 : decode cX5_init 31 = .ok (.newarray .double, 2) := by decide +kernel
theorem dX5_init_33 : decode cX5_init 33 = .ok (.putfield 19, 3) := by decide +kernel
theorem dX5_init_36 : decode cX5_init 36 = .ok (.aload_n 0, 1) := by decide +kernel
theorem dX5_init_37 : decode cX5_init 37 = .ok (.bipush 16, 2) := by decide +kernel
theorem dX5_init_39 : decode cX5_init 39 = .ok (.newarray .double, 2) := by decide +kernel
theorem dX5_init_41 : decode cX5_init 41 = .ok (.putfield 22, 3) := by decide +kernel
theorem dX5_init_44 : decode cX5_init 44 = .ok (.aload_n 0, 1) := by decide +kernel
theorem dX5_init_45 : decode cX5_init 45 = .ok (.bipush 16, 2) := by decide +kernel
theorem dX5_init_47 : decode cX5_init 47 = .ok (.newarray .double, 2) := by decide +kernel
theorem dX5_init_49 : decode cX5_init 49 = .ok (.putfield 25, 3) := by decide +kernel
theorem dX5_init_52 : decode cX5_init 52 = .ok (.aload_n 0, 1) := by decide +kernel
theorem dX5_init_53 : decode cX5_init 53 = .ok (.bipush 16, 2) := by decide +kernel
theorem dX5_init_55 : decode cX5_init 55 = .ok (.newarray .double, 2) := by decide +kernel
theorem dX5_init_57 : decode cX5_init 57 = .ok (.putfield 28, 3) := by decide +kernel
theorem dX5_init_60 : decode cX5_init 60 = .ok (.aload_n 0, 1) := by decide +kernel
theorem dX5_init_61 : decode cX5_init 61 = .ok (.bipush 16, 2) := by decide +kernel
theorem dX5_init_63 : decode cX5_init 63 = .ok (.newarray .double, 2) := by decide +kernel
theorem dX5_init_65 : decode cX5_init 65 = .ok (.putfield 31, 3) := by decide +kernel
theorem dX5_init_68 : decode cX5_init 68 = .ok (.aload_n 0, 1) := by decide +kernel
theorem dX5_init_69 : decode cX5_init 69 = .ok (.bipush 16, 2) := by decide +kernel
theorem dX5_init_71 : decode cX5_init 71 = .ok (.newarray .double, 2) := by decide +kernel
theorem dX5_init_73 : decode cX5_init 73 = .ok (.putfield 34, 3) := by decide +kernel
theorem dX5_init_76 : decode cX5_init 76 = .ok (.aload_n 0, 1) := by decide +kernel
theorem dX5_init_77 : decode cX5_init 77 = .ok (.bipush 16, 2) := by decide +kernel
theorem dX5_init_79 : decode cX5_init 79 = .ok (.newarray .boolean, 2) := by decide +kernel
theorem dX5_init_81 : decode cX5_init 81 = .ok (.putfield 37, 3) := by decide +kernel
theorem dX5_init_84 : decode cX5_init 84 = .ok (.aload_n 0, 1) := by decide +kernel
theorem dX5_init_85 : decode cX5_init 85 = .ok (.bipush 16, 2) := by decide +kernel
theorem dX5_init_87 : decode cX5_init 87 = .ok (.newarray .double, 2) := by decide +kernel
theorem dX5_init_89 : decode cX5_init 89 = .ok (.putfield 41, 3) := by decide +kernel
theorem dX5_init_92 : decode cX5_init 92 = .ok (.aload_n 0, 1) := by decide +kernel
theorem dX5_init_93 : decode cX5_init 93 = .ok (.bipush 16, 2) := by decide +kernel
theorem dX5_init_95 : decode cX5_init 95 = .ok (.newarray .double, 2) := by decide +kernel
theorem dX5_init_97 : decode cX5_init 97 = .ok (.putfield 44, 3) := by decide +kernel
theorem dX5_init_100 : decode cX5_init 100 = .ok (.aload_n 0, 1) := by decide +kernel
theorem dX5_init_101 : decode cX5_init 101 = .ok (.bipush 16, 2) := by decide +kernel
theorem dX5_init_103 : decode cX5_init 103 = .ok (.newarray .double, 2) := by decide +kernel
theorem dX5_init_105 : decode cX5_init 105 = .ok (.putfield 47, 3) := by decide +kernel
theorem dX5_init_108 : decode cX5_init 108 = .ok (.aload_n 0, 1) := by decide +kernel
theorem dX5_init_109 : decode cX5_init 109 = .ok (.bipush 16, 2) := by decide +kernel
theorem dX5_init_111 : decode cX5_init 111 = .ok (.newarray .double, 2) := by decide +kernel
theorem dX5_init_113 : decode cX5_init 113 = .ok (.putfield 50, 3) := by decide +kernel
theorem dX5_init_116 : decode cX5_init 116 = .ok (.aload_n 0, 1) := by decide +kernel
theorem dX5_init_117 : decode cX5_init 117 = .ok (.bipush 16, 2) := by decide +kernel
theorem dX5_init_119 : decode cX5_init 119 = .ok (.newarray .double, 2) := by decide +kernel
theorem dX5_init_121 : decode cX5_init 121 = .ok (.putfield 53, 3) := by decide +kernel
theorem dX5_init_124 : decode cX5_init 124 = .ok (.aload_n 0, 1) := by decide +kernel
theorem dX5_init_125 : decode cX5_init 125 = .ok (.bipush 16, 2) := by decide +kernel
theorem dX5_init_127 : decode cX5_init 127 = .ok (.newarray .double, 2) := by decide +kernel
theorem dX5_init_129 : decode cX5_init 129 = .ok (.putfield 56, 3) := by decide +kernel
theorem dX5_init_132 : decode cX5_init 132 = .ok (.aload_n 0, 1) := by decide +kernel
theorem dX5_init_133 : decode cX5_init 133 = .ok (.bipush 16, 2) := by decide +kernel
theorem dX5_init_135 : decode cX5_init 135 = .ok (.newarray .int, 2) := by decide +kernel
theorem dX5_init_137 : decode cX5_init 137 = .ok (.putfield 59, 3) := by decide +kernel
theorem dX5_init_140 : decode cX5_init 140 = .ok (.aload_n 0, 1) := by decide +kernel
theorem dX5_init_141 : decode cX5_init 141 = .ok (.bipush 16, 2) := by decide +kernel
theorem dX5_init_143 : decode cX5_init 143 = .ok (.newarray .int, 2) := by decide +kernel
theorem dX5_init_145 : decode cX5_init 145 = .ok (.putfield 63, 3) := by decide +kernel
theorem dX5_init_148 : decode cX5_init 148 = .ok (.aload_n 0, 1) := by decide +kernel
theorem dX5_init_149 : decode cX5_init 149 = .ok (.bipush 16, 2) := by decide +kernel
theorem dX5_init_151 : decode cX5_init 151 = .ok (.newarray .int, 2) := by decide +kernel
theorem dX5_init_153 : decode cX5_init 153 = .ok (.putfield 66, 3) := by decide +kernel
theorem dX5_init_156 : decode cX5_init 156 = .ok (.aload_n 0, 1) := by decide +kernel
theorem dX5_init_157 : decode cX5_init 157 = .ok (.bipush 16, 2) := by decide +kernel
theorem dX5_init_159 : decode cX5_init 159 = .ok (.newarray .double, 2) := by decide +kernel
theorem dX5_init_161 : decode cX5_init 161 = .ok (.putfield 69, 3) := by decide +kernel
theorem dX5_init_164 : decode cX5_init 164 = .ok (.aload_n 0, 1) := by decide +kernel
theorem dX5_init_165 : decode cX5_init 165 = .ok (.bipush 16, 2) := by decide +kernel
theorem dX5_init_167 : decode cX5_init 167 = .ok (.newarray .double, 2) := by decide +kernel
theorem dX5_init_169 : decode cX5_init 169 = .ok (.putfield 72, 3) := by decide +kernel
theorem dX5_init_172 : decode cX5_init 172 = .ok (.aload_n 0, 1) := by decide +kernel
theorem dX5_init_173 : decode cX5_init 173 = .ok (.bipush 16, 2) := by decide +kernel
theorem dX5_init_175 : decode cX5_init 175 = .ok (.newarray .int, 2) := by decide +kernel
theorem dX5_init_177 : decode cX5_init 177 = .ok (.putfield 75, 3) := by decide +kernel
theorem dX5_init_180 : decode cX5_init 180 = .ok (.aload_n 0, 1) := by decide +kernel
theorem dX5_init_181 : decode cX5_init 181 = .ok (.bipush 16, 2) := by decide +kernel
theorem dX5_init_183 : decode cX5_init 183 = .ok (.newarray .int, 2) := by decide +kernel
theorem dX5_init_185 : decode cX5_init 185 = .ok (.putfield 78, 3) := by decide +kernel
theorem dX5_init_188 : decode cX5_init 188 = .ok (.aload_n 0, 1) := by decide +kernel
theorem dX5_init_189 : decode cX5_init 189 = .ok (.bipush 16, 2) := by decide +kernel
theorem dX5_init_191 : decode cX5_init 191 = .ok (.newarray .double, 2) := by decide +kernel
theorem dX5_init_193 : decode cX5_init 193 = .ok (.putfield 81, 3) := by decide +kernel
theorem dX5_init_196 : decode cX5_init 196 = .ok (.return_, 1) := by decide +kernel
theorem dX5_isLoop_0 : decode cX5_isLoop 0 = .ok (.iload_n 1, 1) := by decide +kernel
theorem dX5_isLoop_1 : decode cX5_isLoop 1 = .ok (.ifCond .lt 15, 3) := by decide +kernel
theorem dX5_isLoop_4 : decode cX5_isLoop 4 = .ok (.iload_n 1, 1) := by decide +kernel
theorem dX5_isLoop_5 : decode cX5_isLoop 5 = .ok (.aload_n 0, 1) := by decide +kernel
theorem dX5_isLoop_6 : decode cX5_isLoop 6 = .ok (.getfield 84, 3) := by decide +kernel
theorem dX5_isLoop_9 : decode cX5_isLoop 9 = .ok (.if_icmp .ge 7, 3) := by decide +kernel
theorem dX5_isLoop_12 : decode cX5_isLoop 12 = .ok (.iconst 1, 1) := by decide +kernel
theorem dX5_isLoop_13 : decode cX5_isLoop 13 = .ok (.goto 4, 3) := by decide +kernel
theorem dX5_isLoop_16 : decode cX5_isLoop 16 = .ok (.iconst 0, 1) := by decide +kernel
theorem dX5_isLoop_17 : decode cX5_isLoop 17 = .ok (.ireturn, 1) := by decide +kernel
theorem dX5_isIn_0 : decode cX5_isIn 0 = .ok (.dload_n 0, 1) := by decide +kernel
theorem dX5_isIn_1 : decode cX5_isIn 1 = .ok (.dload_n 2, 1) := by decide +kernel
theorem dX5_isIn_2 : decode cX5_isIn 2 = .ok (.dcmp .l, 1) := by decide +kernel
theorem dX5_isIn_3 : decode cX5_isIn 3 = .ok (.ifCond .lt 14, 3) := by decide +kernel
theorem dX5_isIn_6 : decode cX5_isIn 6 = .ok (.dload_n 0, 1) := by decide +kernel
theorem dX5_isIn_7 : decode cX5_isIn 7 = .ok (.dload 4, 2) := by decide +kernel
theorem dX5_isIn_9 : decode cX5_isIn 9 = .ok (.dcmp .g, 1) := by decide +kernel
theorem dX5_isIn_10 : decode cX5_isIn 10 = .ok (.ifCond .gt 7, 3) := by decide +kernel
theorem dX5_isIn_13 : decode cX5_isIn 13 = .ok (.iconst 1, 1) := by decide +kernel
theorem dX5_isIn_14 : decode cX5_isIn 14 = .ok (.goto 4, 3) := by decide +kernel
theorem dX5_isIn_17 : decode cX5_isIn 17 = .ok (.iconst 0, 1) := by decide +kernel
theorem dX5_isIn_18 : decode cX5_isIn 18 = .ok (.ireturn, 1) := by decide +kernel
theorem dX5_loop_0 : decode cX5_loop 0 = .ok (.dload_n 1, 1) := by decide +kernel
theorem dX5_loop_1 : decode cX5_loop 1 = .ok (.dconst 0, 1) := by decide +kernel
theorem dX5_loop_2 : decode cX5_loop 2 = .ok (.ldc2_w 88, 3) := by decide +kernel
theorem dX5_loop_5 : decode cX5_loop 5 = .ok (.invokestatic 90, 3) := by decide +kernel
theorem dX5_loop_8 : decode cX5_loop 8 = .ok (.ifCond .eq 26, 3) := by decide +kernel
theorem dX5_loop_11 : decode cX5_loop 11 = .ok (.dload_n 3, 1) := by decide +kernel
theorem dX5_loop_12 : decode cX5_loop 12 = .ok (.dconst 0, 1) := by decide +kernel
theorem dX5_loop_13 : decode cX5_loop 13 = .ok (.ldc2_w 88, 3) := by decide +kernel
theorem dX5_loop_16 : decode cX5_loop 16 = .ok (.invokestatic 90, 3) := by decide +kernel
theorem dX5_loop_19 : decode cX5_loop 19 = .ok (.ifCond .eq 15, 3) := by decide +kernel
theorem dX5_loop_22 : decode cX5_loop 22 = .ok (.dload 5, 2) := by decide +kernel
theorem dX5_loop_24 : decode cX5_loop 24 = .ok (.dconst 0, 1) := by decide +kernel
theorem dX5_loop_25 : decode cX5_loop 25 = .ok (.ldc2_w 88, 3) := by decide +kernel
theorem dX5_loop_28 : decode cX5_loop 28 = .ok (.invokestatic 90, 3) := by decide +kernel
theorem dX5_loop_31 : decode cX5_loop 31 = .ok (.ifCond .ne 5, 3) := by decide +kernel
theorem dX5_loop_34 : decode cX5_loop 34 = .ok (.iconst (-1), 1) := by decide +kernel
theorem dX5_loop_35 : decode cX5_loop 35 = .ok (.ireturn, 1) := by decide +kernel
theorem dX5_loop_36 : decode cX5_loop 36 = .ok (.aload_n 0, 1) := by decide +kernel
theorem dX5_loop_37 : decode cX5_loop 37 = .ok (.getfield 84, 3) := by decide +kernel
theorem dX5_loop_40 : decode cX5_loop 40 = .ok (.bipush 16, 2) := by decide +kernel
theorem dX5_loop_42 : decode cX5_loop 42 = .ok (.if_icmp .ne 6, 3) := by decide +kernel
theorem dX5_loop_45 : decode cX5_loop 45 = .ok (.bipush (-2), 2) := by decide +kernel
theorem dX5_loop_47 : decode cX5_loop 47 = .ok (.ireturn, 1) := by decide +kernel
theorem dX5_loop_48 : decode cX5_loop 48 = .ok (.aload_n 0, 1) := by decide +kernel
theorem dX5_loop_49 : decode cX5_loop 49 = .ok (.getfield 9, 3) := by decide +kernel
theorem dX5_loop_52 : decode cX5_loop 52 = .ok (.aload_n 0, 1) := by decide +kernel
theorem dX5_loop_53 : decode cX5_loop 53 = .ok (.getfield 84, 3) := by decide +kernel
theorem dX5_loop_56 : decode cX5_loop 56 = .ok (.dload_n 1, 1) := by decide +kernel
theorem dX5_loop_57 : decode cX5_loop 57 = .ok (.dastore, 1) := by decide +kernel
theorem dX5_loop_58 : decode cX5_loop 58 = .ok (.aload_n 0, 1) := by decide +kernel
theorem dX5_loop_59 : decode cX5_loop 59 = .ok (.getfield 13, 3) := by decide +kernel
theorem dX5_loop_62 : decode cX5_loop 62 = .ok (.aload_n 0, 1) := by decide +kernel
theorem dX5_loop_63 : decode cX5_loop 63 = .ok (.getfield 84, 3) := by decide +kernel
theorem dX5_loop_66 : decode cX5_loop 66 = .ok (.dload_n 3, 1) := by decide +kernel
theorem dX5_loop_67 : decode cX5_loop 67 = .ok (.dastore, 1) := by decide +kernel
theorem dX5_loop_68 : decode cX5_loop 68 = .ok (.aload_n 0, 1) := by decide +kernel
theorem dX5_loop_69 : decode cX5_loop 69 = .ok (.getfield 16, 3) := by decide +kernel
theorem dX5_loop_72 : decode cX5_loop 72 = .ok (.aload_n 0, 1) := by decide +kernel
theorem dX5_loop_73 : decode cX5_loop 73 = .ok (.getfield 84, 3) := by decide +kernel
theorem dX5_loop_76 : decode cX5_loop 76 = .ok (.dload 5, 2) := by decide +kernel
theorem dX5_loop_78 : decode cX5_loop 78 = .ok (.dastore, 1) := by decide +kernel
theorem dX5_loop_79 : decode cX5_loop 79 = .ok (.aload_n 0, 1) := by decide +kernel
theorem dX5_loop_80 : decode cX5_loop 80 = .ok (.getfield 22, 3) := by decide +kernel
theorem dX5_loop_83 : decode cX5_loop 83 = .ok (.aload_n 0, 1) := by decide +kernel
theorem dX5_loop_84 : decode cX5_loop 84 = .ok (.getfield 84, 3) := by decide +kernel
theorem dX5_loop_87 : decode cX5_loop 87 = .ok (.ldc2_w 94, 3) := by decide +kernel
theorem dX5_loop_90 : decode cX5_loop 90 = .ok (.dastore, 1) := by decide +kernel
theorem dX5_loop_91 : decode cX5_loop 91 = .ok (.aload_n 0, 1) := by decide +kernel
theorem dX5_loop_92 : decode cX5_loop 92 = .ok (.getfield 25, 3) := by decide +kernel
theorem dX5_loop_95 : decode cX5_loop 95 = .ok (.aload_n 0, 1) := by decide +kernel
theorem dX5_loop_96 : decode cX5_loop 96 = .ok (.getfield 84, 3) := by decide +kernel
theorem dX5_loop_99 : decode cX5_loop 99 = .ok (.ldc2_w 94, 3) := by decide +kernel
theorem dX5_loop_102 : decode cX5_loop 102 = .ok (.dastore, 1) := by decide +kernel
theorem dX5_loop_103 : decode cX5_loop 103 = .ok (.aload_n 0, 1) := by decide +kernel
theorem dX5_loop_104 : decode cX5_loop 104 = .ok (.getfield 31, 3) := by decide +kernel
theorem dX5_loop_107 : decode cX5_loop 107 = .ok (.aload_n 0, 1) := by decide +kernel
theorem dX5_loop_108 : decode cX5_loop 108 = .ok (.getfield 84, 3) := by decide +kernel
theorem dX5_loop_111 : decode cX5_loop 111 = .ok (.ldc2_w 96, 3) := by decide +kernel
theorem dX5_loop_114 : decode cX5_loop 114 = .ok (.dastore, 1) := by decide +kernel
theorem dX5_loop_115 : decode cX5_loop 115 = .ok (.aload_n 0, 1) := by decide +kernel
theorem dX5_loop_116 : decode cX5_loop 116 = .ok (.getfield 34, 3) := by decide +kernel
theorem dX5_loop_119 : decode cX5_loop 119 = .ok (.aload_n 0, 1) := by decide +kernel
theorem dX5_loop_120 : decode cX5_loop 120 = .ok (.getfield 84, 3) := by decide +kernel
theorem dX5_loop_123 : decode cX5_loop 123 = .ok (.dconst 1, 1) := by decide +kernel
theorem dX5_loop_124 : decode cX5_loop 124 = .ok (.dastore, 1) := by decide +kernel
theorem dX5_loop_125 : decode cX5_loop 125 = .ok (.aload_n 0, 1) := by decide +kernel
theorem dX5_loop_126 : decode cX5_loop 126 = .ok (.getfield 63, 3) := by decide +kernel
theorem dX5_loop_129 : decode cX5_loop 129 = .ok (.aload_n 0, 1) := by decide +kernel
theorem dX5_loop_130 : decode cX5_loop 130 = .ok (.getfield 84, 3) := by decide +kernel
theorem dX5_loop_133 : decode cX5_loop 133 = .ok (.iconst (-1), 1) := by decide +kernel
theorem dX5_loop_134 : decode cX5_loop 134 = .ok (.iastore, 1) := by decide +kernel
theorem dX5_loop_135 : decode cX5_loop 135 = .ok (.aload_n 0, 1) := by decide +kernel
theorem dX5_loop_136 : decode cX5_loop 136 = .ok (.dup, 1) := by decide +kernel
theorem dX5_loop_137 : decode cX5_loop 137 = .ok (.getfield 84, 3) := by decide +kernel
theorem dX5_loop_140 : decode cX5_loop 140 = .ok (.iconst 1, 1) := by decide +kernel
theorem dX5_loop_141 : decode cX5_loop 141 = .ok (.iadd, 1) := by decide +kernel
theorem dX5_loop_142 : decode cX5_loop 142 = .ok (.putfield 84, 3) := by decide +kernel
theorem dX5_loop_145 : decode cX5_loop 145 = .ok (.aload_n 0, 1) := by decide +kernel
theorem dX5_loop_146 : decode cX5_loop 146 = .ok (.getfield 84, 3) := by decide +kernel
theorem dX5_loop_149 : decode cX5_loop 149 = .ok (.iconst 1, 1) := by decide +kernel
theorem dX5_loop_150 : decode cX5_loop 150 = .ok (.isub, 1) := by decide +kernel
theorem dX5_loop_151 : decode cX5_loop 151 = .ok (.ireturn, 1) := by decide +kernel
theorem dX5_limits_0 : decode cX5_limits 0 = .ok (.aload_n 0, 1) := by decide +kernel
theorem dX5_limits_1 : decode cX5_limits 1 = .ok (.iload_n 1, 1) := by decide +kernel
theorem dX5_limits_2 : decode cX5_limits 2 = .ok (.invokevirtual 98, 3) := by decide +kernel
theorem dX5_limits_5 : decode cX5_limits 5 = .ok (.ifCond .eq 53, 3) := by decide +kernel
theorem dX5_limits_8 : decode cX5_limits 8 = .ok (.dload_n 2, 1) := by decide +kernel
theorem dX5_limits_9 : decode cX5_limits 9 = .ok (.ldc2_w 102, 3) := by decide +kernel
theorem dX5_limits_12 : decode cX5_limits 12 = .ok (.ldc2_w 104, 3) := by decide +kernel
theorem dX5_limits_15 : decode cX5_limits 15 = .ok (.invokestatic 90, 3) := by decide +kernel
theorem dX5_limits_18 : decode cX5_limits 18 = .ok (.ifCond .eq 40, 3) := by decide +kernel
theorem dX5_limits_21 : decode cX5_limits 21 = .ok (.dload 4, 2) := by decide +kernel
theorem dX5_limits_23 : decode cX5_limits 23 = .ok (.ldc2_w 102, 3) := by decide +kernel
theorem dX5_limits_26 : decode cX5_limits 26 = .ok (.ldc2_w 104, 3) := by decide +kernel
theorem dX5_limits_29 : decode cX5_limits 29 = .ok (.invokestatic 90, 3) := by decide +kernel
theorem dX5_limits_32 : decode cX5_limits 32 = .ok (.ifCond .eq 26, 3) := by decide +kernel
theorem dX5_limits_35 : decode cX5_limits 35 = .ok (.dload_n 2, 1) := by decide +kernel
theorem dX5_limits_36 : decode cX5_limits 36 = .ok (.dload 4, 2) := by decide +kernel
theorem dX5_limits_38 : decode cX5_limits 38 = .ok (.dcmp .g, 1) := by decide +kernel
theorem dX5_limits_39 : decode cX5_limits 39 = .ok (.ifCond .ge 19, 3) := by decide +kernel
theorem dX5_limits_42 : decode cX5_limits 42 = .ok (.dload 6, 2) := by decide +kernel
theorem dX5_limits_44 : decode cX5_limits 44 = .ok (.dconst 0, 1) := by decide +kernel
theorem dX5_limits_45 : decode cX5_limits 45 = .ok (.dcmp .l, 1) := by decide +kernel
theorem dX5_limits_46 : decode cX5_limits 46 = .ok (.ifCond .le 12, 3) := by decide +kernel
theorem dX5_limits_49 : decode cX5_limits 49 = .ok (.dload 6, 2) := by decide +kernel
theorem dX5_limits_51 : decode cX5_limits 51 = .ok (.ldc2_w 104, 3) := by decide +kernel
theorem dX5_limits_54 : decode cX5_limits 54 = .ok (.dcmp .l, 1) := by decide +kernel
theorem dX5_limits_55 : decode cX5_limits 55 = .ok (.ifCond .le 5, 3) := by decide +kernel
theorem dX5_limits_58 : decode cX5_limits 58 = .ok (.iconst 0, 1) := by decide +kernel
theorem dX5_limits_59 : decode cX5_limits 59 = .ok (.ireturn, 1) := by decide +kernel
theorem dX5_limits_60 : decode cX5_limits 60 = .ok (.aload_n 0, 1) := by decide +kernel
theorem dX5_limits_61 : decode cX5_limits 61 = .ok (.getfield 19, 3) := by decide +kernel
theorem dX5_limits_64 : decode cX5_limits 64 = .ok (.iload_n 1, 1) := by decide +kernel
theorem dX5_limits_65 : decode cX5_limits 65 = .ok (.dload_n 2, 1) := by decide +kernel
theorem dX5_limits_66 : decode cX5_limits 66 = .ok (.dastore, 1) := by decide +kernel
theorem dX5_limits_67 : decode cX5_limits 67 = .ok (.aload_n 0, 1) := by decide +kernel
theorem dX5_limits_68 : decode cX5_limits 68 = .ok (.getfield 22, 3) := by decide +kernel
theorem dX5_limits_71 : decode cX5_limits 71 = .ok (.iload_n 1, 1) := by decide +kernel
theorem dX5_limits_72 : decode cX5_limits 72 = .ok (.dload 4, 2) := by decide +kernel
theorem dX5_limits_74 : decode cX5_limits 74 = .ok (.dastore, 1) := by decide +kernel
theorem dX5_limits_75 : decode cX5_limits 75 = .ok (.aload_n 0, 1) := by decide +kernel
theorem dX5_limits_76 : decode cX5_limits 76 = .ok (.getfield 25, 3) := by decide +kernel
theorem dX5_limits_79 : decode cX5_limits 79 = .ok (.iload_n 1, 1) := by decide +kernel
theorem dX5_limits_80 : decode cX5_limits 80 = .ok (.dload 6, 2) := by decide +kernel
theorem dX5_limits_82 : decode cX5_limits 82 = .ok (.dastore, 1) := by decide +kernel
theorem dX5_limits_83 : decode cX5_limits 83 = .ok (.iconst 1, 1) := by decide +kernel
theorem dX5_limits_84 : decode cX5_limits 84 = .ok (.ireturn, 1) := by decide +kernel
theorem dX5_safe_0 : decode cX5_safe 0 = .ok (.aload_n 0, 1) := by decide +kernel
theorem dX5_safe_1 : decode cX5_safe 1 = .ok (.iload_n 1, 1) := by decide +kernel
theorem dX5_safe_2 : decode cX5_safe 2 = .ok (.invokevirtual 98, 3) := by decide +kernel
theorem dX5_safe_5 : decode cX5_safe 5 = .ok (.ifCond .eq 16, 3) := by decide +kernel
theorem dX5_safe_8 : decode cX5_safe 8 = .ok (.dload_n 2, 1) := by decide +kernel
theorem dX5_safe_9 : decode cX5_safe 9 = .ok (.ldc2_w 102, 3) := by decide +kernel
theorem dX5_safe_12 : decode cX5_safe 12 = .ok (.ldc2_w 104, 3) := by decide +kernel
theorem dX5_safe_15 : decode cX5_safe 15 = .ok (.invokestatic 90, 3) := by decide +kernel
theorem dX5_safe_18 : decode cX5_safe 18 = .ok (.ifCond .ne 5, 3) := by decide +kernel
theorem dX5_safe_21 : decode cX5_safe 21 = .ok (.iconst 0, 1) := by decide +kernel
theorem dX5_safe_22 : decode cX5_safe 22 = .ok (.ireturn, 1) := by decide +kernel
theorem dX5_safe_23 : decode cX5_safe 23 = .ok (.aload_n 0, 1) := by decide +kernel
theorem dX5_safe_24 : decode cX5_safe 24 = .ok (.getfield 28, 3) := by decide +kernel
theorem dX5_safe_27 : decode cX5_safe 27 = .ok (.iload_n 1, 1) := by decide +kernel
theorem dX5_safe_28 : decode cX5_safe 28 = .ok (.dload_n 2, 1) := by decide +kernel
theorem dX5_safe_29 : decode cX5_safe 29 = .ok (.dastore, 1) := by decide +kernel
theorem dX5_safe_30 : decode cX5_safe 30 = .ok (.iconst 1, 1) := by decide +kernel
theorem dX5_safe_31 : decode cX5_safe 31 = .ok (.ireturn, 1) := by decide +kernel
theorem dX5_move_0 : decode cX5_move 0 = .ok (.aload_n 0, 1) := by decide +kernel
theorem dX5_move_1 : decode cX5_move 1 = .ok (.getfield 47, 3) := by decide +kernel
theorem dX5_move_4 : decode cX5_move 4 = .ok (.iload_n 1, 1) := by decide +kernel
theorem dX5_move_5 : decode cX5_move 5 = .ok (.daload, 1) := by decide +kernel
theorem dX5_move_6 : decode cX5_move 6 = .ok (.aload_n 0, 1) := by decide +kernel
theorem dX5_move_7 : decode cX5_move 7 = .ok (.getfield 25, 3) := by decide +kernel
theorem dX5_move_10 : decode cX5_move 10 = .ok (.iload_n 1, 1) := by decide +kernel
theorem dX5_move_11 : decode cX5_move 11 = .ok (.daload, 1) := by decide +kernel
theorem dX5_move_12 : decode cX5_move 12 = .ok (.dadd, 1) := by decide +kernel
theorem dX5_move_13 : decode cX5_move 13 = .ok (.dstore 4, 2) := by decide +kernel
theorem dX5_move_15 : decode cX5_move 15 = .ok (.aload_n 0, 1) := by decide +kernel
theorem dX5_move_16 : decode cX5_move 16 = .ok (.getfield 47, 3) := by decide +kernel
theorem dX5_move_19 : decode cX5_move 19 = .ok (.iload_n 1, 1) := by decide +kernel
theorem dX5_move_20 : decode cX5_move 20 = .ok (.daload, 1) := by decide +kernel
theorem dX5_move_21 : decode cX5_move 21 = .ok (.aload_n 0, 1) := by decide +kernel
theorem dX5_move_22 : decode cX5_move 22 = .ok (.getfield 25, 3) := by decide +kernel
theorem dX5_move_25 : decode cX5_move 25 = .ok (.iload_n 1, 1) := by decide +kernel
theorem dX5_move_26 : decode cX5_move 26 = .ok (.daload, 1) := by decide +kernel
theorem dX5_move_27 : decode cX5_move 27 = .ok (.dsub, 1) := by decide +kernel
theorem dX5_move_28 : decode cX5_move 28 = .ok (.dstore 6, 2) := by decide +kernel
theorem dX5_move_30 : decode cX5_move 30 = .ok (.aload_n 0, 1) := by decide +kernel
theorem dX5_move_31 : decode cX5_move 31 = .ok (.getfield 47, 3) := by decide +kernel
theorem dX5_move_34 : decode cX5_move 34 = .ok (.iload_n 1, 1) := by decide +kernel
theorem dX5_move_35 : decode cX5_move 35 = .ok (.dload_n 2, 1) := by decide +kernel
theorem dX5_move_36 : decode cX5_move 36 = .ok (.dload 4, 2) := by decide +kernel
theorem dX5_move_38 : decode cX5_move 38 = .ok (.dcmp .l, 1) := by decide +kernel
theorem dX5_move_39 : decode cX5_move 39 = .ok (.ifCond .le 8, 3) := by decide +kernel
theorem dX5_move_42 : decode cX5_move 42 = .ok (.dload 4, 2) := by decide +kernel
theorem dX5_move_44 : decode cX5_move 44 = .ok (.goto 16, 3) := by decide +kernel
theorem dX5_move_47 : decode cX5_move 47 = .ok (.dload_n 2, 1) := by decide +kernel
theorem dX5_move_48 : decode cX5_move 48 = .ok (.dload 6, 2) := by decide +kernel
theorem dX5_move_50 : decode cX5_move 50 = .ok (.dcmp .g, 1) := by decide +kernel
theorem dX5_move_51 : decode cX5_move 51 = .ok (.ifCond .ge 8, 3) := by decide +kernel
theorem dX5_move_54 : decode cX5_move 54 = .ok (.dload 6, 2) := by decide +kernel
theorem dX5_move_56 : decode cX5_move 56 = .ok (.goto 4, 3) := by decide +kernel
theorem dX5_move_59 : decode cX5_move 59 = .ok (.dload_n 2, 1) := by decide +kernel
theorem dX5_move_60 : decode cX5_move 60 = .ok (.dastore, 1) := by decide +kernel
theorem dX5_move_61 : decode cX5_move 61 = .ok (.return_, 1) := by decide +kernel
theorem dX5_tick_0 : decode cX5_tick 0 = .ok (.aload_n 0, 1) := by decide +kernel
theorem dX5_tick_1 : decode cX5_tick 1 = .ok (.iload_n 1, 1) := by decide +kernel
theorem dX5_tick_2 : decode cX5_tick 2 = .ok (.invokevirtual 98, 3) := by decide +kernel
theorem dX5_tick_5 : decode cX5_tick 5 = .ok (.ifCond .eq 30, 3) := by decide +kernel
theorem dX5_tick_8 : decode cX5_tick 8 = .ok (.dload_n 2, 1) := by decide +kernel
theorem dX5_tick_9 : decode cX5_tick 9 = .ok (.ldc2_w 106, 3) := by decide +kernel
theorem dX5_tick_12 : decode cX5_tick 12 = .ok (.ldc2_w 108, 3) := by decide +kernel
theorem dX5_tick_15 : decode cX5_tick 15 = .ok (.invokestatic 90, 3) := by decide +kernel
theorem dX5_tick_18 : decode cX5_tick 18 = .ok (.ifCond .eq 17, 3) := by decide +kernel
theorem dX5_tick_21 : decode cX5_tick 21 = .ok (.dload 4, 2) := by decide +kernel
theorem dX5_tick_23 : decode cX5_tick 23 = .ok (.ldc2_w 106, 3) := by decide +kernel
theorem dX5_tick_26 : decode cX5_tick 26 = .ok (.ldc2_w 108, 3) := by decide +kernel
theorem dX5_tick_29 : decode cX5_tick 29 = .ok (.invokestatic 90, 3) := by decide +kernel
theorem dX5_tick_32 : decode cX5_tick 32 = .ok (.ifCond .ne 5, 3) := by decide +kernel
theorem dX5_tick_35 : decode cX5_tick 35 = .ok (.dconst 0, 1) := by decide +kernel
theorem dX5_tick_36 : decode cX5_tick 36 = .ok (.dreturn, 1) := by decide +kernel
theorem dX5_tick_37 : decode cX5_tick 37 = .ok (.aload_n 0, 1) := by decide +kernel
theorem dX5_tick_38 : decode cX5_tick 38 = .ok (.getfield 37, 3) := by decide +kernel
theorem dX5_tick_41 : decode cX5_tick 41 = .ok (.iload_n 1, 1) := by decide +kernel
theorem dX5_tick_42 : decode cX5_tick 42 = .ok (.baload, 1) := by decide +kernel
theorem dX5_tick_43 : decode cX5_tick 43 = .ok (.ifCond .eq 51, 3) := by decide +kernel
theorem dX5_tick_46 : decode cX5_tick 46 = .ok (.dload_n 2, 1) := by decide +kernel
theorem dX5_tick_47 : decode cX5_tick 47 = .ok (.aload_n 0, 1) := by decide +kernel
theorem dX5_tick_48 : decode cX5_tick 48 = .ok (.getfield 41, 3) := by decide +kernel
theorem dX5_tick_51 : decode cX5_tick 51 = .ok (.iload_n 1, 1) := by decide +kernel
theorem dX5_tick_52 : decode cX5_tick 52 = .ok (.daload, 1) := by decide +kernel
theorem dX5_tick_53 : decode cX5_tick 53 = .ok (.aload_n 0, 1) := by decide +kernel
