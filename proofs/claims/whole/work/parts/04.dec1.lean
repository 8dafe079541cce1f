theorem dM_water_1 : decode bM_water 1 = .ok (.getfield 9, 3) := by decide +kernel
theorem dM_water_4 : decode bM_water 4 = .ok (.iconst 0, 1) := by decide +kernel
theorem dM_water_5 : decode bM_water 5 = .ok (.daload, 1) := by decide +kernel
theorem dM_water_6 : decode bM_water 6 = .ok (.dreturn, 1) := by decide +kernel
theorem dM_converted_0 : decode bM_converted 0 = .ok (.aload_n 0, 1) := by decide +kernel
theorem dM_converted_1 : decode bM_converted 1 = .ok (.invokevirtual 90, 3) := by decide +kernel
theorem dM_converted_4 : decode bM_converted 4 = .ok (.ifCond .ne 23, 3) := by decide +kernel
theorem dM_converted_7 : decode bM_converted 7 = .ok (.ldc2_w 103, 3) := by decide +kernel
theorem dM_converted_10 : decode bM_converted 10 = .ok (.aload_n 0, 1) := by decide +kernel
theorem dM_converted_11 : decode bM_converted 11 = .ok (.invokevirtual 105, 3) := by decide +kernel
theorem dM_converted_14 : decode bM_converted 14 = .ok (.dmul, 1) := by decide +kernel
theorem dM_converted_15 : decode bM_converted 15 = .ok (.aload_n 0, 1) := by decide +kernel
theorem dM_converted_16 : decode bM_converted 16 = .ok (.getfield 41, 3) := by decide +kernel
theorem dM_converted_19 : decode bM_converted 19 = .ok (.dcmp .g, 1) := by decide +kernel
theorem dM_converted_20 : decode bM_converted 20 = .ok (.ifCond .gt 7, 3) := by decide +kernel
theorem dM_converted_23 : decode bM_converted 23 = .ok (.iconst 1, 1) := by decide +kernel
theorem dM_converted_24 : decode bM_converted 24 = .ok (.goto 4, 3) := by decide +kernel
theorem dM_converted_27 : decode bM_converted 27 = .ok (.iconst 0, 1) := by decide +kernel
theorem dM_converted_28 : decode bM_converted 28 = .ok (.ireturn, 1) := by decide +kernel
theorem dM_isEmpty_0 : decode bM_isEmpty 0 = .ok (.aload_n 0, 1) := by decide +kernel
theorem dM_isEmpty_1 : decode bM_isEmpty 1 = .ok (.getfield 56, 3) := by decide +kernel
theorem dM_isEmpty_4 : decode bM_isEmpty 4 = .ok (.ifCond .eq 10, 3) := by decide +kernel
theorem dM_isEmpty_7 : decode bM_isEmpty 7 = .ok (.aload_n 0, 1) := by decide +kernel
theorem dM_isEmpty_8 : decode bM_isEmpty 8 = .ok (.getfield 78, 3) := by decide +kernel
theorem dM_isEmpty_11 : decode bM_isEmpty 11 = .ok (.ifCond .ne 7, 3) := by decide +kernel
theorem dM_isEmpty_14 : decode bM_isEmpty 14 = .ok (.iconst 1, 1) := by decide +kernel
theorem dM_isEmpty_15 : decode bM_isEmpty 15 = .ok (.goto 4, 3) := by decide +kernel
theorem dM_isEmpty_18 : decode bM_isEmpty 18 = .ok (.iconst 0, 1) := by decide +kernel
theorem dM_isEmpty_19 : decode bM_isEmpty 19 = .ok (.ireturn, 1) := by decide +kernel
theorem dM_isTemperature_0 : decode bM_isTemperature 0 = .ok (.dload_n 0, 1) := by decide +kernel
theorem dM_isTemperature_1 : decode bM_isTemperature 1 = .ok (.dconst 0, 1) := by decide +kernel
theorem dM_isTemperature_2 : decode bM_isTemperature 2 = .ok (.dcmp .l, 1) := by decide +kernel
theorem dM_isTemperature_3 : decode bM_isTemperature 3 = .ok (.ifCond .lt 15, 3) := by decide +kernel
theorem dM_isTemperature_6 : decode bM_isTemperature 6 = .ok (.dload_n 0, 1) := by decide +kernel
theorem dM_isTemperature_7 : decode bM_isTemperature 7 = .ok (.ldc2_w 109, 3) := by decide +kernel
theorem dM_isTemperature_10 : decode bM_isTemperature 10 = .ok (.dcmp .g, 1) := by decide +kernel
theorem dM_isTemperature_11 : decode bM_isTemperature 11 = .ok (.ifCond .gt 7, 3) := by decide +kernel
theorem dM_isTemperature_14 : decode bM_isTemperature 14 = .ok (.iconst 1, 1) := by decide +kernel
theorem dM_isTemperature_15 : decode bM_isTemperature 15 = .ok (.goto 4, 3) := by decide +kernel
theorem dM_isTemperature_18 : decode bM_isTemperature 18 = .ok (.iconst 0, 1) := by decide +kernel
theorem dM_isTemperature_19 : decode bM_isTemperature 19 = .ok (.ireturn, 1) := by decide +kernel
theorem dM_mixed_0 : decode bM_mixed 0 = .ok (.dload_n 2, 1) := by decide +kernel
theorem dM_mixed_1 : decode bM_mixed 1 = .ok (.dload 6, 2) := by decide +kernel
theorem dM_mixed_3 : decode bM_mixed 3 = .ok (.dadd, 1) := by decide +kernel
theorem dM_mixed_4 : decode bM_mixed 4 = .ok (.dstore 8, 2) := by decide +kernel
theorem dM_mixed_6 : decode bM_mixed 6 = .ok (.dload 8, 2) := by decide +kernel
theorem dM_mixed_8 : decode bM_mixed 8 = .ok (.dconst 0, 1) := by decide +kernel
theorem dM_mixed_9 : decode bM_mixed 9 = .ok (.dcmp .l, 1) := by decide +kernel
theorem dM_mixed_10 : decode bM_mixed 10 = .ok (.ifCond .le 18, 3) := by decide +kernel
theorem dM_mixed_13 : decode bM_mixed 13 = .ok (.dload_n 0, 1) := by decide +kernel
theorem dM_mixed_14 : decode bM_mixed 14 = .ok (.dload_n 2, 1) := by decide +kernel
theorem dM_mixed_15 : decode bM_mixed 15 = .ok (.dmul, 1) := by decide +kernel
theorem dM_mixed_16 : decode bM_mixed 16 = .ok (.dload 4, 2) := by decide +kernel
theorem dM_mixed_18 : decode bM_mixed 18 = .ok (.dload 6, 2) := by decide +kernel
theorem dM_mixed_20 : decode bM_mixed 20 = .ok (.dmul, 1) := by decide +kernel
theorem dM_mixed_21 : decode bM_mixed 21 = .ok (.dadd, 1) := by decide +kernel
theorem dM_mixed_22 : decode bM_mixed 22 = .ok (.dload 8, 2) := by decide +kernel
theorem dM_mixed_24 : decode bM_mixed 24 = .ok (.ddiv, 1) := by decide +kernel
theorem dM_mixed_25 : decode bM_mixed 25 = .ok (.goto 4, 3) := by decide +kernel
theorem dM_mixed_28 : decode bM_mixed 28 = .ok (.dload_n 0, 1) := by decide +kernel
theorem dM_mixed_29 : decode bM_mixed 29 = .ok (.dreturn, 1) := by decide +kernel
theorem dM_passSecond_0 : decode bM_passSecond 0 = .ok (.aload_n 0, 1) := by decide +kernel
theorem dM_passSecond_1 : decode bM_passSecond 1 = .ok (.aload_n 0, 1) := by decide +kernel
theorem dM_passSecond_2 : decode bM_passSecond 2 = .ok (.getfield 28, 3) := by decide +kernel
theorem dM_passSecond_5 : decode bM_passSecond 5 = .ok (.aload_n 0, 1) := by decide +kernel
theorem dM_passSecond_6 : decode bM_passSecond 6 = .ok (.getfield 68, 3) := by decide +kernel
theorem dM_passSecond_9 : decode bM_passSecond 9 = .ok (.aload_n 0, 1) := by decide +kernel
theorem dM_passSecond_10 : decode bM_passSecond 10 = .ok (.getfield 81, 3) := by decide +kernel
theorem dM_passSecond_13 : decode bM_passSecond 13 = .ok (.invokevirtual 111, 3) := by decide +kernel
theorem dM_passSecond_16 : decode bM_passSecond 16 = .ok (.putfield 68, 3) := by decide +kernel
theorem dM_passSecond_19 : decode bM_passSecond 19 = .ok (.aload_n 0, 1) := by decide +kernel
theorem dM_passSecond_20 : decode bM_passSecond 20 = .ok (.getfield 35, 3) := by decide +kernel
theorem dM_passSecond_23 : decode bM_passSecond 23 = .ok (.aload_n 0, 1) := by decide +kernel
theorem dM_passSecond_24 : decode bM_passSecond 24 = .ok (.getfield 68, 3) := by decide +kernel
theorem dM_passSecond_27 : decode bM_passSecond 27 = .ok (.invokevirtual 115, 3) := by decide +kernel
theorem dM_passSecond_30 : decode bM_passSecond 30 = .ok (.aload_n 0, 1) := by decide +kernel
theorem dM_passSecond_31 : decode bM_passSecond 31 = .ok (.invokevirtual 119, 3) := by decide +kernel
theorem dM_passSecond_34 : decode bM_passSecond 34 = .ok (.aload_n 0, 1) := by decide +kernel
theorem dM_passSecond_35 : decode bM_passSecond 35 = .ok (.invokevirtual 122, 3) := by decide +kernel
theorem dM_passSecond_38 : decode bM_passSecond 38 = .ok (.aload_n 0, 1) := by decide +kernel
theorem dM_passSecond_39 : decode bM_passSecond 39 = .ok (.invokevirtual 125, 3) := by decide +kernel
theorem dM_passSecond_42 : decode bM_passSecond 42 = .ok (.aload_n 0, 1) := by decide +kernel
theorem dM_passSecond_43 : decode bM_passSecond 43 = .ok (.invokevirtual 128, 3) := by decide +kernel
theorem dM_passSecond_46 : decode bM_passSecond 46 = .ok (.aload_n 0, 1) := by decide +kernel
theorem dM_passSecond_47 : decode bM_passSecond 47 = .ok (.invokevirtual 131, 3) := by decide +kernel
theorem dM_passSecond_50 : decode bM_passSecond 50 = .ok (.aload_n 0, 1) := by decide +kernel
theorem dM_passSecond_51 : decode bM_passSecond 51 = .ok (.invokevirtual 134, 3) := by decide +kernel
theorem dM_passSecond_54 : decode bM_passSecond 54 = .ok (.aload_n 0, 1) := by decide +kernel
theorem dM_passSecond_55 : decode bM_passSecond 55 = .ok (.invokevirtual 137, 3) := by decide +kernel
theorem dM_passSecond_58 : decode bM_passSecond 58 = .ok (.aload_n 0, 1) := by decide +kernel
theorem dM_passSecond_59 : decode bM_passSecond 59 = .ok (.aload_n 0, 1) := by decide +kernel
theorem dM_passSecond_60 : decode bM_passSecond 60 = .ok (.getfield 81, 3) := by decide +kernel
theorem dM_passSecond_63 : decode bM_passSecond 63 = .ok (.iconst 1, 1) := by decide +kernel
theorem dM_passSecond_64 : decode bM_passSecond 64 = .ok (.iadd, 1) := by decide +kernel
theorem dM_passSecond_65 : decode bM_passSecond 65 = .ok (.putfield 81, 3) := by decide +kernel
theorem dM_passSecond_68 : decode bM_passSecond 68 = .ok (.return_, 1) := by decide +kernel
theorem dM_reckonActions_0 : decode bM_reckonActions 0 = .ok (.aload_n 0, 1) := by decide +kernel
theorem dM_reckonActions_1 : decode bM_reckonActions 1 = .ok (.invokevirtual 140, 3) := by decide +kernel
theorem dM_reckonActions_4 : decode bM_reckonActions 4 = .ok (.dstore_n 1, 1) := by decide +kernel
theorem dM_reckonActions_5 : decode bM_reckonActions 5 = .ok (.aload_n 0, 1) := by decide +kernel
theorem dM_reckonActions_6 : decode bM_reckonActions 6 = .ok (.getfield 9, 3) := by decide +kernel
theorem dM_reckonActions_9 : decode bM_reckonActions 9 = .ok (.iconst 0, 1) := by decide +kernel
theorem dM_reckonActions_10 : decode bM_reckonActions 10 = .ok (.daload, 1) := by decide +kernel
theorem dM_reckonActions_11 : decode bM_reckonActions 11 = .ok (.dstore_n 3, 1) := by decide +kernel
theorem dM_reckonActions_12 : decode bM_reckonActions 12 = .ok (.iconst 0, 1) := by decide +kernel
theorem dM_reckonActions_13 : decode bM_reckonActions 13 = .ok (.istore 5, 2) := by decide +kernel
theorem dM_reckonActions_15 : decode bM_reckonActions 15 = .ok (.iload 5, 2) := by decide +kernel
theorem dM_reckonActions_17 : decode bM_reckonActions 17 = .ok (.iconst 4, 1) := by decide +kernel
theorem dM_reckonActions_18 : decode bM_reckonActions 18 = .ok (.if_icmp .ge 62, 3) := by decide +kernel
theorem dM_reckonActions_21 : decode bM_reckonActions 21 = .ok (.aload_n 0, 1) := by decide +kernel
theorem dM_reckonActions_22 : decode bM_reckonActions 22 = .ok (.getfield 9, 3) := by decide +kernel
theorem dM_reckonActions_25 : decode bM_reckonActions 25 = .ok (.bipush 9, 2) := by decide +kernel
theorem dM_reckonActions_27 : decode bM_reckonActions 27 = .ok (.iload 5, 2) := by decide +kernel
theorem dM_reckonActions_29 : decode bM_reckonActions 29 = .ok (.iadd, 1) := by decide +kernel
theorem dM_reckonActions_30 : decode bM_reckonActions 30 = .ok (.daload, 1) := by decide +kernel
theorem dM_reckonActions_31 : decode bM_reckonActions 31 = .ok (.aload_n 0, 1) := by decide +kernel
theorem dM_reckonActions_32 : decode bM_reckonActions 32 = .ok (.getfield 35, 3) := by decide +kernel
theorem dM_reckonActions_35 : decode bM_reckonActions 35 = .ok (.iload 5, 2) := by decide +kernel
theorem dM_reckonActions_37 : decode bM_reckonActions 37 = .ok (.invokevirtual 143, 3) := by decide +kernel
theorem dM_reckonActions_40 : decode bM_reckonActions 40 = .ok (.dmul, 1) := by decide +kernel
theorem dM_reckonActions_41 : decode bM_reckonActions 41 = .ok (.dload_n 1, 1) := by decide +kernel
theorem dM_reckonActions_42 : decode bM_reckonActions 42 = .ok (.dmul, 1) := by decide +kernel
theorem dM_reckonActions_43 : decode bM_reckonActions 43 = .ok (.dstore 6, 2) := by decide +kernel
theorem dM_reckonActions_45 : decode bM_reckonActions 45 = .ok (.aload_n 0, 1) := by decide +kernel
theorem dM_reckonActions_46 : decode bM_reckonActions 46 = .ok (.getfield 22, 3) := by decide +kernel
theorem dM_reckonActions_49 : decode bM_reckonActions 49 = .ok (.iload 5, 2) := by decide +kernel
theorem dM_reckonActions_51 : decode bM_reckonActions 51 = .ok (.dload 6, 2) := by decide +kernel
theorem dM_reckonActions_53 : decode bM_reckonActions 53 = .ok (.dconst 0, 1) := by decide +kernel
theorem dM_reckonActions_54 : decode bM_reckonActions 54 = .ok (.dcmp .l, 1) := by decide +kernel
theorem dM_reckonActions_55 : decode bM_reckonActions 55 = .ok (.ifCond .le 17, 3) := by decide +kernel
theorem dM_reckonActions_58 : decode bM_reckonActions 58 = .ok (.dload 6, 2) := by decide +kernel
theorem dM_reckonActions_60 : decode bM_reckonActions 60 = .ok (.dload 6, 2) := by decide +kernel
theorem dM_reckonActions_62 : decode bM_reckonActions 62 = .ok (.dload_n 3, 1) := by decide +kernel
theorem dM_reckonActions_63 : decode bM_reckonActions 63 = .ok (.dadd, 1) := by decide +kernel
theorem dM_reckonActions_64 : decode bM_reckonActions 64 = .ok (.ddiv, 1) := by decide +kernel
theorem dM_reckonActions_65 : decode bM_reckonActions 65 = .ok (.ldc2_w 147, 3) := by decide +kernel
theorem dM_reckonActions_68 : decode bM_reckonActions 68 = .ok (.dmul, 1) := by decide +kernel
theorem dM_reckonActions_69 : decode bM_reckonActions 69 = .ok (.goto 4, 3) := by decide +kernel
theorem dM_reckonActions_72 : decode bM_reckonActions 72 = .ok (.dconst 0, 1) := by decide +kernel
theorem dM_reckonActions_73 : decode bM_reckonActions 73 = .ok (.dastore, 1) := by decide +kernel
theorem dM_reckonActions_74 : decode bM_reckonActions 74 = .ok (.iinc 5 1, 3) := by decide +kernel
theorem dM_reckonActions_77 : decode bM_reckonActions 77 = .ok (.goto (-62), 3) := by decide +kernel
theorem dM_reckonActions_80 : decode bM_reckonActions 80 = .ok (.return_, 1) := by decide +kernel
theorem dM_acidityFitness_0 : decode bM_acidityFitness 0 = .ok (.dconst 1, 1) := by decide +kernel
theorem dM_acidityFitness_1 : decode bM_acidityFitness 1 = .ok (.aload_n 0, 1) := by decide +kernel
theorem dM_acidityFitness_2 : decode bM_acidityFitness 2 = .ok (.getfield 75, 3) := by decide +kernel
theorem dM_acidityFitness_5 : decode bM_acidityFitness 5 = .ok (.ldc2_w 149, 3) := by decide +kernel
theorem dM_acidityFitness_8 : decode bM_acidityFitness 8 = .ok (.dsub, 1) := by decide +kernel
theorem dM_acidityFitness_9 : decode bM_acidityFitness 9 = .ok (.aload_n 0, 1) := by decide +kernel
theorem dM_acidityFitness_10 : decode bM_acidityFitness 10 = .ok (.getfield 75, 3) := by decide +kernel
theorem dM_acidityFitness_13 : decode bM_acidityFitness 13 = .ok (.ldc2_w 149, 3) := by decide +kernel
theorem dM_acidityFitness_16 : decode bM_acidityFitness 16 = .ok (.dsub, 1) := by decide +kernel
theorem dM_acidityFitness_17 : decode bM_acidityFitness 17 = .ok (.dmul, 1) := by decide +kernel
theorem dM_acidityFitness_18 : decode bM_acidityFitness 18 = .ok (.ldc2_w 151, 3) := by decide +kernel
theorem dM_acidityFitness_21 : decode bM_acidityFitness 21 = .ok (.dmul, 1) := by decide +kernel
theorem dM_acidityFitness_22 : decode bM_acidityFitness 22 = .ok (.dsub, 1) := by decide +kernel
theorem dM_acidityFitness_23 : decode bM_acidityFitness 23 = .ok (.dstore_n 1, 1) := by decide +kernel
theorem dM_acidityFitness_24 : decode bM_acidityFitness 24 = .ok (.dload_n 1, 1) := by decide +kernel
theorem dM_acidityFitness_25 : decode bM_acidityFitness 25 = .ok (.dconst 0, 1) := by decide +kernel
theorem dM_acidityFitness_26 : decode bM_acidityFitness 26 = .ok (.dcmp .g, 1) := by decide +kernel
theorem dM_acidityFitness_27 : decode bM_acidityFitness 27 = .ok (.ifCond .ge 7, 3) := by decide +kernel
theorem dM_acidityFitness_30 : decode bM_acidityFitness 30 = .ok (.dconst 0, 1) := by decide +kernel
theorem dM_acidityFitness_31 : decode bM_acidityFitness 31 = .ok (.goto 4, 3) := by decide +kernel
theorem dM_acidityFitness_34 : decode bM_acidityFitness 34 = .ok (.dload_n 1, 1) := by decide +kernel
theorem dM_acidityFitness_35 : decode bM_acidityFitness 35 = .ok (.dreturn, 1) := by decide +kernel
theorem dM_gelStarch_0 : decode bM_gelStarch 0 = .ok (.aload_n 0, 1) := by decide +kernel
theorem dM_gelStarch_1 : decode bM_gelStarch 1 = .ok (.getfield 9, 3) := by decide +kernel
theorem dM_gelStarch_4 : decode bM_gelStarch 4 = .ok (.iconst 1, 1) := by decide +kernel
theorem dM_gelStarch_5 : decode bM_gelStarch 5 = .ok (.daload, 1) := by decide +kernel
theorem dM_gelStarch_6 : decode bM_gelStarch 6 = .ok (.aload_n 0, 1) := by decide +kernel
theorem dM_gelStarch_7 : decode bM_gelStarch 7 = .ok (.getfield 35, 3) := by decide +kernel
theorem dM_gelStarch_10 : decode bM_gelStarch 10 = .ok (.invokevirtual 153, 3) := by decide +kernel
theorem dM_gelStarch_13 : decode bM_gelStarch 13 = .ok (.dmul, 1) := by decide +kernel
theorem dM_gelStarch_14 : decode bM_gelStarch 14 = .ok (.dstore_n 1, 1) := by decide +kernel
theorem dM_gelStarch_15 : decode bM_gelStarch 15 = .ok (.aload_n 0, 1) := by decide +kernel
theorem dM_gelStarch_16 : decode bM_gelStarch 16 = .ok (.getfield 9, 3) := by decide +kernel
theorem dM_gelStarch_19 : decode bM_gelStarch 19 = .ok (.iconst 1, 1) := by decide +kernel
theorem dM_gelStarch_20 : decode bM_gelStarch 20 = .ok (.aload_n 0, 1) := by decide +kernel
theorem dM_gelStarch_21 : decode bM_gelStarch 21 = .ok (.getfield 9, 3) := by decide +kernel
theorem dM_gelStarch_24 : decode bM_gelStarch 24 = .ok (.iconst 1, 1) := by decide +kernel
theorem dM_gelStarch_25 : decode bM_gelStarch 25 = .ok (.daload, 1) := by decide +kernel
theorem dM_gelStarch_26 : decode bM_gelStarch 26 = .ok (.dload_n 1, 1) := by decide +kernel
theorem dM_gelStarch_27 : decode bM_gelStarch 27 = .ok (.dsub, 1) := by decide +kernel
theorem dM_gelStarch_28 : decode bM_gelStarch 28 = .ok (.dastore, 1) := by decide +kernel
theorem dM_gelStarch_29 : decode bM_gelStarch 29 = .ok (.aload_n 0, 1) := by decide +kernel
theorem dM_gelStarch_30 : decode bM_gelStarch 30 = .ok (.getfield 9, 3) := by decide +kernel
theorem dM_gelStarch_33 : decode bM_gelStarch 33 = .ok (.iconst 2, 1) := by decide +kernel
theorem dM_gelStarch_34 : decode bM_gelStarch 34 = .ok (.aload_n 0, 1) := by decide +kernel
theorem dM_gelStarch_35 : decode bM_gelStarch 35 = .ok (.getfield 9, 3) := by decide +kernel
theorem dM_gelStarch_38 : decode bM_gelStarch 38 = .ok (.iconst 2, 1) := by decide +kernel
theorem dM_gelStarch_39 : decode bM_gelStarch 39 = .ok (.daload, 1) := by decide +kernel
theorem dM_gelStarch_40 : decode bM_gelStarch 40 = .ok (.dload_n 1, 1) := by decide +kernel
theorem dM_gelStarch_41 : decode bM_gelStarch 41 = .ok (.dadd, 1) := by decide +kernel
theorem dM_gelStarch_42 : decode bM_gelStarch 42 = .ok (.dastore, 1) := by decide +kernel
theorem dM_gelStarch_43 : decode bM_gelStarch 43 = .ok (.return_, 1) := by decide +kernel
theorem dM_splitGelledStarch_0 : decode bM_splitGelledStarch 0 = .ok (.aload_n 0, 1) := by decide +kernel
theorem dM_splitGelledStarch_1 : decode bM_splitGelledStarch 1 = .ok (.getfield 9, 3) := by decide +kernel
theorem dM_splitGelledStarch_4 : decode bM_splitGelledStarch 4 = .ok (.iconst 2, 1) := by decide +kernel
theorem dM_splitGelledStarch_5 : decode bM_splitGelledStarch 5 = .ok (.daload, 1) := by decide +kernel
theorem dM_splitGelledStarch_6 : decode bM_splitGelledStarch 6 = .ok (.aload_n 0, 1) := by decide +kernel
theorem dM_splitGelledStarch_7 : decode bM_splitGelledStarch 7 = .ok (.getfield 22, 3) := by decide +kernel
theorem dM_splitGelledStarch_10 : decode bM_splitGelledStarch 10 = .ok (.iconst 0, 1) := by decide +kernel
theorem dM_splitGelledStarch_11 : decode bM_splitGelledStarch 11 = .ok (.daload, 1) := by decide +kernel
theorem dM_splitGelledStarch_12 : decode bM_splitGelledStarch 12 = .ok (.dmul, 1) := by decide +kernel
theorem dM_splitGelledStarch_13 : decode bM_splitGelledStarch 13 = .ok (.dstore_n 1, 1) := by decide +kernel
theorem dM_splitGelledStarch_14 : decode bM_splitGelledStarch 14 = .ok (.aload_n 0, 1) := by decide +kernel
theorem dM_splitGelledStarch_15 : decode bM_splitGelledStarch 15 = .ok (.getfield 9, 3) := by decide +kernel
theorem dM_splitGelledStarch_18 : decode bM_splitGelledStarch 18 = .ok (.iconst 2, 1) := by decide +kernel
theorem dM_splitGelledStarch_19 : decode bM_splitGelledStarch 19 = .ok (.aload_n 0, 1) := by decide +kernel
theorem dM_splitGelledStarch_20 : decode bM_splitGelledStarch 20 = .ok (.getfield 9, 3) := by decide +kernel
theorem dM_splitGelledStarch_23 : decode bM_splitGelledStarch 23 = .ok (.iconst 2, 1) := by decide +kernel
theorem dM_splitGelledStarch_24 : decode bM_splitGelledStarch 24 = .ok (.daload, 1) := by decide +kernel
theorem dM_splitGelledStarch_25 : decode bM_splitGelledStarch 25 = .ok (.dload_n 1, 1) := by decide +kernel
theorem dM_splitGelledStarch_26 : decode bM_splitGelledStarch 26 = .ok (.dsub, 1) := by decide +kernel
theorem dM_splitGelledStarch_27 : decode bM_splitGelledStarch 27 = .ok (.dastore, 1) := by decide +kernel
theorem dM_splitGelledStarch_28 : decode bM_splitGelledStarch 28 = .ok (.aload_n 0, 1) := by decide +kernel
theorem dM_splitGelledStarch_29 : decode bM_splitGelledStarch 29 = .ok (.getfield 9, 3) := by decide +kernel
theorem dM_splitGelledStarch_32 : decode bM_splitGelledStarch 32 = .ok (.bipush 6, 2) := by decide +kernel
theorem dM_splitGelledStarch_34 : decode bM_splitGelledStarch 34 = .ok (.aload_n 0, 1) := by decide +kernel
theorem dM_splitGelledStarch_35 : decode bM_splitGelledStarch 35 = .ok (.getfield 9, 3) := by decide +kernel
theorem dM_splitGelledStarch_38 : decode bM_splitGelledStarch 38 = .ok (.bipush 6, 2) := by decide +kernel
theorem dM_splitGelledStarch_40 : decode bM_splitGelledStarch 40 = .ok (.daload, 1) := by decide +kernel
theorem dM_splitGelledStarch_41 : decode bM_splitGelledStarch 41 = .ok (.dload_n 1, 1) := by decide +kernel
theorem dM_splitGelledStarch_42 : decode bM_splitGelledStarch 42 = .ok (.ldc2_w 156, 3) := by decide +kernel
theorem dM_splitGelledStarch_45 : decode bM_splitGelledStarch 45 = .ok (.dmul, 1) := by decide +kernel
theorem dM_splitGelledStarch_46 : decode bM_splitGelledStarch 46 = .ok (.dadd, 1) := by decide +kernel
theorem dM_splitGelledStarch_47 : decode bM_splitGelledStarch 47 = .ok (.dastore, 1) := by decide +kernel
theorem dM_splitGelledStarch_48 : decode bM_splitGelledStarch 48 = .ok (.aload_n 0, 1) := by decide +kernel
theorem dM_splitGelledStarch_49 : decode bM_splitGelledStarch 49 = .ok (.getfield 9, 3) := by decide +kernel
theorem dM_splitGelledStarch_52 : decode bM_splitGelledStarch 52 = .ok (.iconst 5, 1) := by decide +kernel
theorem dM_splitGelledStarch_53 : decode bM_splitGelledStarch 53 = .ok (.aload_n 0, 1) := by decide +kernel
theorem dM_splitGelledStarch_54 : decode bM_splitGelledStarch 54 = .ok (.getfield 9, 3) := by decide +kernel
theorem dM_splitGelledStarch_57 : decode bM_splitGelledStarch 57 = .ok (.iconst 5, 1) := by decide +kernel
theorem dM_splitGelledStarch_58 : decode bM_splitGelledStarch 58 = .ok (.daload, 1) := by decide +kernel
theorem dM_splitGelledStarch_59 : decode bM_splitGelledStarch 59 = .ok (.dload_n 1, 1) := by decide +kernel
theorem dM_splitGelledStarch_60 : decode bM_splitGelledStarch 60 = .ok (.ldc2_w 151, 3) := by decide +kernel
theorem dM_splitGelledStarch_63 : decode bM_splitGelledStarch 63 = .ok (.dmul, 1) := by decide +kernel
theorem dM_splitGelledStarch_64 : decode bM_splitGelledStarch 64 = .ok (.dadd, 1) := by decide +kernel
theorem dM_splitGelledStarch_65 : decode bM_splitGelledStarch 65 = .ok (.dastore, 1) := by decide +kernel
theorem dM_splitGelledStarch_66 : decode bM_splitGelledStarch 66 = .ok (.return_, 1) := by decide +kernel
theorem dM_splitDextrinsToMaltose_0 : decode bM_splitDextrinsToMaltose 0 = .ok (.aload_n 0, 1) := by decide +kernel
theorem dM_splitDextrinsToMaltose_1 : decode bM_splitDextrinsToMaltose 1 = .ok (.getfield 9, 3) := by decide +kernel
theorem dM_splitDextrinsToMaltose_4 : decode bM_splitDextrinsToMaltose 4 = .ok (.bipush 6, 2) := by decide +kernel
theorem dM_splitDextrinsToMaltose_6 : decode bM_splitDextrinsToMaltose 6 = .ok (.daload, 1) := by decide +kernel
theorem dM_splitDextrinsToMaltose_7 : decode bM_splitDextrinsToMaltose 7 = .ok (.aload_n 0, 1) := by decide +kernel
theorem dM_splitDextrinsToMaltose_8 : decode bM_splitDextrinsToMaltose 8 = .ok (.getfield 22, 3) := by decide +kernel
theorem dM_splitDextrinsToMaltose_11 : decode bM_splitDextrinsToMaltose 11 = .ok (.iconst 1, 1) := by decide +kernel
theorem dM_splitDextrinsToMaltose_12 : decode bM_splitDextrinsToMaltose 12 = .ok (.daload, 1) := by decide +kernel
theorem dM_splitDextrinsToMaltose_13 : decode bM_splitDextrinsToMaltose 13 = .ok (.dmul, 1) := by decide +kernel
theorem dM_splitDextrinsToMaltose_14 : decode bM_splitDextrinsToMaltose 14 = .ok (.aload_n 0, 1) := by decide +kernel
theorem dM_splitDextrinsToMaltose_15 : decode bM_splitDextrinsToMaltose 15 = .ok (.getfield 9, 3) := by decide +kernel
theorem dM_splitDextrinsToMaltose_18 : decode bM_splitDextrinsToMaltose 18 = .ok (.iconst 0, 1) := by decide +kernel
theorem dM_splitDextrinsToMaltose_19 : decode bM_splitDextrinsToMaltose 19 = .ok (.daload, 1) := by decide +kernel
theorem dM_splitDextrinsToMaltose_20 : decode bM_splitDextrinsToMaltose 20 = .ok (.ldc2_w 54, 3) := by decide +kernel
theorem dM_splitDextrinsToMaltose_23 : decode bM_splitDextrinsToMaltose 23 = .ok (.dmul, 1) := by decide +kernel
theorem dM_splitDextrinsToMaltose_24 : decode bM_splitDextrinsToMaltose 24 = .ok (.invokestatic 158, 3) := by decide +kernel
theorem dM_splitDextrinsToMaltose_27 : decode bM_splitDextrinsToMaltose 27 = .ok (.dstore_n 1, 1) := by decide +kernel
theorem dM_splitDextrinsToMaltose_28 : decode bM_splitDextrinsToMaltose 28 = .ok (.aload_n 0, 1) := by decide +kernel
theorem dM_splitDextrinsToMaltose_29 : decode bM_splitDextrinsToMaltose 29 = .ok (.getfield 9, 3) := by decide +kernel
theorem dM_splitDextrinsToMaltose_32 : decode bM_splitDextrinsToMaltose 32 = .ok (.bipush 6, 2) := by decide +kernel
theorem dM_splitDextrinsToMaltose_34 : decode bM_splitDextrinsToMaltose 34 = .ok (.aload_n 0, 1) := by decide +kernel
theorem dM_splitDextrinsToMaltose_35 : decode bM_splitDextrinsToMaltose 35 = .ok (.getfield 9, 3) := by decide +kernel
theorem dM_splitDextrinsToMaltose_38 : decode bM_splitDextrinsToMaltose 38 = .ok (.bipush 6, 2) := by decide +kernel
theorem dM_splitDextrinsToMaltose_40 : decode bM_splitDextrinsToMaltose 40 = .ok (.daload, 1) := by decide +kernel
theorem dM_splitDextrinsToMaltose_41 : decode bM_splitDextrinsToMaltose 41 = .ok (.dload_n 1, 1) := by decide +kernel
theorem dM_splitDextrinsToMaltose_42 : decode bM_splitDextrinsToMaltose 42 = .ok (.dsub, 1) := by decide +kernel
theorem dM_splitDextrinsToMaltose_43 : decode bM_splitDextrinsToMaltose 43 = .ok (.dastore, 1) := by decide +kernel
theorem dM_splitDextrinsToMaltose_44 : decode bM_splitDextrinsToMaltose 44 = .ok (.aload_n 0, 1) := by decide +kernel
theorem dM_splitDextrinsToMaltose_45 : decode bM_splitDextrinsToMaltose 45 = .ok (.getfield 9, 3) := by decide +kernel
theorem dM_splitDextrinsToMaltose_48 : decode bM_splitDextrinsToMaltose 48 = .ok (.iconst 4, 1) := by decide +kernel
theorem dM_splitDextrinsToMaltose_49 : decode bM_splitDextrinsToMaltose 49 = .ok (.aload_n 0, 1) := by decide +kernel
theorem dM_splitDextrinsToMaltose_50 : decode bM_splitDextrinsToMaltose 50 = .ok (.getfield 9, 3) := by decide +kernel
theorem dM_splitDextrinsToMaltose_53 : decode bM_splitDextrinsToMaltose 53 = .ok (.iconst 4, 1) := by decide +kernel
theorem dM_splitDextrinsToMaltose_54 : decode bM_splitDextrinsToMaltose 54 = .ok (.daload, 1) := by decide +kernel
theorem dM_splitDextrinsToMaltose_55 : decode bM_splitDextrinsToMaltose 55 = .ok (.dload_n 1, 1) := by decide +kernel
theorem dM_splitDextrinsToMaltose_56 : decode bM_splitDextrinsToMaltose 56 = .ok (.ldc2_w 162, 3) := by decide +kernel
theorem dM_splitDextrinsToMaltose_59 : decode bM_splitDextrinsToMaltose 59 = .ok (.dmul, 1) := by decide +kernel
theorem dM_splitDextrinsToMaltose_60 : decode bM_splitDextrinsToMaltose 60 = .ok (.dadd, 1) := by decide +kernel
theorem dM_splitDextrinsToMaltose_61 : decode bM_splitDextrinsToMaltose 61 = .ok (.dastore, 1) := by decide +kernel
theorem dM_splitDextrinsToMaltose_62 : decode bM_splitDextrinsToMaltose 62 = .ok (.aload_n 0, 1) := by decide +kernel
theorem dM_splitDextrinsToMaltose_63 : decode bM_splitDextrinsToMaltose 63 = .ok (.getfield 9, 3) := by decide +kernel
theorem dM_splitDextrinsToMaltose_66 : decode bM_splitDextrinsToMaltose 66 = .ok (.iconst 0, 1) := by decide +kernel
theorem dM_splitDextrinsToMaltose_67 : decode bM_splitDextrinsToMaltose 67 = .ok (.aload_n 0, 1) := by decide +kernel
theorem dM_splitDextrinsToMaltose_68 : decode bM_splitDextrinsToMaltose 68 = .ok (.getfield 9, 3) := by decide +kernel
theorem dM_splitDextrinsToMaltose_71 : decode bM_splitDextrinsToMaltose 71 = .ok (.iconst 0, 1) := by decide +kernel
theorem dM_splitDextrinsToMaltose_72 : decode bM_splitDextrinsToMaltose 72 = .ok (.daload, 1) := by decide +kernel
theorem dM_splitDextrinsToMaltose_73 : decode bM_splitDextrinsToMaltose 73 = .ok (.dload_n 1, 1) := by decide +kernel
theorem dM_splitDextrinsToMaltose_74 : decode bM_splitDextrinsToMaltose 74 = .ok (.ldc2_w 147, 3) := by decide +kernel
theorem dM_splitDextrinsToMaltose_77 : decode bM_splitDextrinsToMaltose 77 = .ok (.dmul, 1) := by decide +kernel
theorem dM_splitDextrinsToMaltose_78 : decode bM_splitDextrinsToMaltose 78 = .ok (.dsub, 1) := by decide +kernel
theorem dM_splitDextrinsToMaltose_79 : decode bM_splitDextrinsToMaltose 79 = .ok (.dastore, 1) := by decide +kernel
theorem dM_splitDextrinsToMaltose_80 : decode bM_splitDextrinsToMaltose 80 = .ok (.return_, 1) := by decide +kernel
theorem dM_splitDextrinsToGlucose_0 : decode bM_splitDextrinsToGlucose 0 = .ok (.aload_n 0, 1) := by decide +kernel
theorem dM_splitDextrinsToGlucose_1 : decode bM_splitDextrinsToGlucose 1 = .ok (.getfield 9, 3) := by decide +kernel
theorem dM_splitDextrinsToGlucose_4 : decode bM_splitDextrinsToGlucose 4 = .ok (.bipush 6, 2) := by decide +kernel
theorem dM_splitDextrinsToGlucose_6 : decode bM_splitDextrinsToGlucose 6 = .ok (.daload, 1) := by decide +kernel
theorem dM_splitDextrinsToGlucose_7 : decode bM_splitDextrinsToGlucose 7 = .ok (.aload_n 0, 1) := by decide +kernel
theorem dM_splitDextrinsToGlucose_8 : decode bM_splitDextrinsToGlucose 8 = .ok (.getfield 22, 3) := by decide +kernel
theorem dM_splitDextrinsToGlucose_11 : decode bM_splitDextrinsToGlucose 11 = .ok (.iconst 2, 1) := by decide +kernel
theorem dM_splitDextrinsToGlucose_12 : decode bM_splitDextrinsToGlucose 12 = .ok (.daload, 1) := by decide +kernel
theorem dM_splitDextrinsToGlucose_13 : decode bM_splitDextrinsToGlucose 13 = .ok (.dmul, 1) := by decide +kernel
theorem dM_splitDextrinsToGlucose_14 : decode bM_splitDextrinsToGlucose 14 = .ok (.aload_n 0, 1) := by decide +kernel
theorem dM_splitDextrinsToGlucose_15 : decode bM_splitDextrinsToGlucose 15 = .ok (.getfield 9, 3) := by decide +kernel
theorem dM_splitDextrinsToGlucose_18 : decode bM_splitDextrinsToGlucose 18 = .ok (.iconst 0, 1) := by decide +kernel
theorem dM_splitDextrinsToGlucose_19 : decode bM_splitDextrinsToGlucose 19 = .ok (.daload, 1) := by decide +kernel
theorem dM_splitDextrinsToGlucose_20 : decode bM_splitDextrinsToGlucose 20 = .ok (.ldc2_w 164, 3) := by decide +kernel
theorem dM_splitDextrinsToGlucose_23 : decode bM_splitDextrinsToGlucose 23 = .ok (.dmul, 1) := by decide +kernel
theorem dM_splitDextrinsToGlucose_24 : decode bM_splitDextrinsToGlucose 24 = .ok (.invokestatic 158, 3) := by decide +kernel
theorem dM_splitDextrinsToGlucose_27 : decode bM_splitDextrinsToGlucose 27 = .ok (.dstore_n 1, 1) := by decide +kernel
theorem dM_splitDextrinsToGlucose_28 : decode bM_splitDextrinsToGlucose 28 = .ok (.aload_n 0, 1) := by decide +kernel
theorem dM_splitDextrinsToGlucose_29 : decode bM_splitDextrinsToGlucose 29 = .ok (.getfield 9, 3) := by decide +kernel
theorem dM_splitDextrinsToGlucose_32 : decode bM_splitDextrinsToGlucose 32 = .ok (.bipush 6, 2) := by decide +kernel
theorem dM_splitDextrinsToGlucose_34 : decode bM_splitDextrinsToGlucose 34 = .ok (.aload_n 0, 1) := by decide +kernel
theorem dM_splitDextrinsToGlucose_35 : decode bM_splitDextrinsToGlucose 35 = .ok (.getfield 9, 3) := by decide +kernel
theorem dM_splitDextrinsToGlucose_38 : decode bM_splitDextrinsToGlucose 38 = .ok (.bipush 6, 2) := by decide +kernel
theorem dM_splitDextrinsToGlucose_40 : decode bM_splitDextrinsToGlucose 40 = .ok (.daload, 1) := by decide +kernel
theorem dM_splitDextrinsToGlucose_41 : decode bM_splitDextrinsToGlucose 41 = .ok (.dload_n 1, 1) := by decide +kernel
theorem dM_splitDextrinsToGlucose_42 : decode bM_splitDextrinsToGlucose 42 = .ok (.dsub, 1) := by decide +kernel
theorem dM_splitDextrinsToGlucose_43 : decode bM_splitDextrinsToGlucose 43 = .ok (.dastore, 1) := by decide +kernel
theorem dM_splitDextrinsToGlucose_44 : decode bM_splitDextrinsToGlucose 44 = .ok (.aload_n 0, 1) := by decide +kernel
theorem dM_splitDextrinsToGlucose_45 : decode bM_splitDextrinsToGlucose 45 = .ok (.getfield 9, 3) := by decide +kernel
theorem dM_splitDextrinsToGlucose_48 : decode bM_splitDextrinsToGlucose 48 = .ok (.iconst 3, 1) := by decide +kernel
theorem dM_splitDextrinsToGlucose_49 : decode bM_splitDextrinsToGlucose 49 = .ok (.aload_n 0, 1) := by decide +kernel
theorem dM_splitDextrinsToGlucose_50 : decode bM_splitDextrinsToGlucose 50 = .ok (.getfield 9, 3) := by decide +kernel
theorem dM_splitDextrinsToGlucose_53 : decode bM_splitDextrinsToGlucose 53 = .ok (.iconst 3, 1) := by decide +kernel
theorem dM_splitDextrinsToGlucose_54 : decode bM_splitDextrinsToGlucose 54 = .ok (.daload, 1) := by decide +kernel
theorem dM_splitDextrinsToGlucose_55 : decode bM_splitDextrinsToGlucose 55 = .ok (.dload_n 1, 1) := by decide +kernel
theorem dM_splitDextrinsToGlucose_56 : decode bM_splitDextrinsToGlucose 56 = .ok (.ldc2_w 166, 3) := by decide +kernel
theorem dM_splitDextrinsToGlucose_59 : decode bM_splitDextrinsToGlucose 59 = .ok (.dmul, 1) := by decide +kernel
theorem dM_splitDextrinsToGlucose_60 : decode bM_splitDextrinsToGlucose 60 = .ok (.dadd, 1) := by decide +kernel
theorem dM_splitDextrinsToGlucose_61 : decode bM_splitDextrinsToGlucose 61 = .ok (.dastore, 1) := by decide +kernel
theorem dM_splitDextrinsToGlucose_62 : decode bM_splitDextrinsToGlucose 62 = .ok (.aload_n 0, 1) := by decide +kernel
theorem dM_splitDextrinsToGlucose_63 : decode bM_splitDextrinsToGlucose 63 = .ok (.getfield 9, 3) := by decide +kernel
theorem dM_splitDextrinsToGlucose_66 : decode bM_splitDextrinsToGlucose 66 = .ok (.iconst 0, 1) := by decide +kernel
theorem dM_splitDextrinsToGlucose_67 : decode bM_splitDextrinsToGlucose 67 = .ok (.aload_n 0, 1) := by decide +kernel
theorem dM_splitDextrinsToGlucose_68 : decode bM_splitDextrinsToGlucose 68 = .ok (.getfield 9, 3) := by decide +kernel
theorem dM_splitDextrinsToGlucose_71 : decode bM_splitDextrinsToGlucose 71 = .ok (.iconst 0, 1) := by decide +kernel
theorem dM_splitDextrinsToGlucose_72 : decode bM_splitDextrinsToGlucose 72 = .ok (.daload, 1) := by decide +kernel
theorem dM_splitDextrinsToGlucose_73 : decode bM_splitDextrinsToGlucose 73 = .ok (.dload_n 1, 1) := by decide +kernel
theorem dM_splitDextrinsToGlucose_74 : decode bM_splitDextrinsToGlucose 74 = .ok (.ldc2_w 168, 3) := by decide +kernel
theorem dM_splitDextrinsToGlucose_77 : decode bM_splitDextrinsToGlucose 77 = .ok (.dmul, 1) := by decide +kernel
theorem dM_splitDextrinsToGlucose_78 : decode bM_splitDextrinsToGlucose 78 = .ok (.dsub, 1) := by decide +kernel
theorem dM_splitDextrinsToGlucose_79 : decode bM_splitDextrinsToGlucose 79 = .ok (.dastore, 1) := by decide +kernel
theorem dM_splitDextrinsToGlucose_80 : decode bM_splitDextrinsToGlucose 80 = .ok (.return_, 1) := by decide +kernel
theorem dM_splitProtein_0 : decode bM_splitProtein 0 = .ok (.aload_n 0, 1) := by decide +kernel
theorem dM_splitProtein_1 : decode bM_splitProtein 1 = .ok (.getfield 9, 3) := by decide +kernel
theorem dM_splitProtein_4 : decode bM_splitProtein 4 = .ok (.bipush 8, 2) := by decide +kernel
theorem dM_splitProtein_6 : decode bM_splitProtein 6 = .ok (.daload, 1) := by decide +kernel
theorem dM_splitProtein_7 : decode bM_splitProtein 7 = .ok (.aload_n 0, 1) := by decide +kernel
theorem dM_splitProtein_8 : decode bM_splitProtein 8 = .ok (.getfield 22, 3) := by decide +kernel
theorem dM_splitProtein_11 : decode bM_splitProtein 11 = .ok (.iconst 3, 1) := by decide +kernel
theorem dM_splitProtein_12 : decode bM_splitProtein 12 = .ok (.daload, 1) := by decide +kernel
theorem dM_splitProtein_13 : decode bM_splitProtein 13 = .ok (.dmul, 1) := by decide +kernel
theorem dM_splitProtein_14 : decode bM_splitProtein 14 = .ok (.dstore_n 1, 1) := by decide +kernel
theorem dM_splitProtein_15 : decode bM_splitProtein 15 = .ok (.aload_n 0, 1) := by decide +kernel
theorem dM_splitProtein_16 : decode bM_splitProtein 16 = .ok (.getfield 9, 3) := by decide +kernel
theorem dM_splitProtein_19 : decode bM_splitProtein 19 = .ok (.bipush 8, 2) := by decide +kernel
theorem dM_splitProtein_21 : decode bM_splitProtein 21 = .ok (.aload_n 0, 1) := by decide +kernel
theorem dM_splitProtein_22 : decode bM_splitProtein 22 = .ok (.getfield 9, 3) := by decide +kernel
theorem dM_splitProtein_25 : decode bM_splitProtein 25 = .ok (.bipush 8, 2) := by decide +kernel
theorem dM_splitProtein_27 : decode bM_splitProtein 27 = .ok (.daload, 1) := by decide +kernel
theorem dM_splitProtein_28 : decode bM_splitProtein 28 = .ok (.dload_n 1, 1) := by decide +kernel
theorem dM_splitProtein_29 : decode bM_splitProtein 29 = .ok (.dsub, 1) := by decide +kernel
theorem dM_splitProtein_30 : decode bM_splitProtein 30 = .ok (.dastore, 1) := by decide +kernel
theorem dM_splitProtein_31 : decode bM_splitProtein 31 = .ok (.aload_n 0, 1) := by decide +kernel
theorem dM_splitProtein_32 : decode bM_splitProtein 32 = .ok (.getfield 9, 3) := by decide +kernel
theorem dM_splitProtein_35 : decode bM_splitProtein 35 = .ok (.bipush 7, 2) := by decide +kernel
theorem dM_splitProtein_37 : decode bM_splitProtein 37 = .ok (.aload_n 0, 1) := by decide +kernel
theorem dM_splitProtein_38 : decode bM_splitProtein 38 = .ok (.getfield 9, 3) := by decide +kernel
theorem dM_splitProtein_41 : decode bM_splitProtein 41 = .ok (.bipush 7, 2) := by decide +kernel
theorem dM_splitProtein_43 : decode bM_splitProtein 43 = .ok (.daload, 1) := by decide +kernel
theorem dM_splitProtein_44 : decode bM_splitProtein 44 = .ok (.dload_n 1, 1) := by decide +kernel
theorem dM_splitProtein_45 : decode bM_splitProtein 45 = .ok (.dadd, 1) := by decide +kernel
theorem dM_splitProtein_46 : decode bM_splitProtein 46 = .ok (.dastore, 1) := by decide +kernel
theorem dM_splitProtein_47 : decode bM_splitProtein 47 = .ok (.return_, 1) := by decide +kernel
theorem dM_decayEnzymes_0 : decode bM_decayEnzymes 0 = .ok (.iconst 0, 1) := by decide +kernel
theorem dM_decayEnzymes_1 : decode bM_decayEnzymes 1 = .ok (.istore_n 1, 1) := by decide +kernel
theorem dM_decayEnzymes_2 : decode bM_decayEnzymes 2 = .ok (.iload_n 1, 1) := by decide +kernel
theorem dM_decayEnzymes_3 : decode bM_decayEnzymes 3 = .ok (.iconst 4, 1) := by decide +kernel
theorem dM_decayEnzymes_4 : decode bM_decayEnzymes 4 = .ok (.if_icmp .ge 40, 3) := by decide +kernel
theorem dM_decayEnzymes_7 : decode bM_decayEnzymes 7 = .ok (.aload_n 0, 1) := by decide +kernel
theorem dM_decayEnzymes_8 : decode bM_decayEnzymes 8 = .ok (.getfield 9, 3) := by decide +kernel
theorem dM_decayEnzymes_11 : decode bM_decayEnzymes 11 = .ok (.bipush 9, 2) := by decide +kernel
theorem dM_decayEnzymes_13 : decode bM_decayEnzymes 13 = .ok (.iload_n 1, 1) := by decide +kernel
theorem dM_decayEnzymes_14 : decode bM_decayEnzymes 14 = .ok (.iadd, 1) := by decide +kernel
theorem dM_decayEnzymes_15 : decode bM_decayEnzymes 15 = .ok (.daload, 1) := by decide +kernel
theorem dM_decayEnzymes_16 : decode bM_decayEnzymes 16 = .ok (.dstore_n 2, 1) := by decide +kernel
theorem dM_decayEnzymes_17 : decode bM_decayEnzymes 17 = .ok (.aload_n 0, 1) := by decide +kernel
theorem dM_decayEnzymes_18 : decode bM_decayEnzymes 18 = .ok (.getfield 9, 3) := by decide +kernel
theorem dM_decayEnzymes_21 : decode bM_decayEnzymes 21 = .ok (.bipush 9, 2) := by decide +kernel
theorem dM_decayEnzymes_23 : decode bM_decayEnzymes 23 = .ok (.iload_n 1, 1) := by decide +kernel
theorem dM_decayEnzymes_24 : decode bM_decayEnzymes 24 = .ok (.iadd, 1) := by decide +kernel
theorem dM_decayEnzymes_25 : decode bM_decayEnzymes 25 = .ok (.dload_n 2, 1) := by decide +kernel
theorem dM_decayEnzymes_26 : decode bM_decayEnzymes 26 = .ok (.dload_n 2, 1) := by decide +kernel
theorem dM_decayEnzymes_27 : decode bM_decayEnzymes 27 = .ok (.aload_n 0, 1) := by decide +kernel
theorem dM_decayEnzymes_28 : decode bM_decayEnzymes 28 = .ok (.getfield 35, 3) := by decide +kernel
theorem dM_decayEnzymes_31 : decode bM_decayEnzymes 31 = .ok (.iload_n 1, 1) := by decide +kernel
theorem dM_decayEnzymes_32 : decode bM_decayEnzymes 32 = .ok (.invokevirtual 170, 3) := by decide +kernel
theorem dM_decayEnzymes_35 : decode bM_decayEnzymes 35 = .ok (.dmul, 1) := by decide +kernel
theorem dM_decayEnzymes_36 : decode bM_decayEnzymes 36 = .ok (.dsub, 1) := by decide +kernel
theorem dM_decayEnzymes_37 : decode bM_decayEnzymes 37 = .ok (.dastore, 1) := by decide +kernel
theorem dM_decayEnzymes_38 : decode bM_decayEnzymes 38 = .ok (.iinc 1 1, 3) := by decide +kernel
theorem dM_decayEnzymes_41 : decode bM_decayEnzymes 41 = .ok (.goto (-39), 3) := by decide +kernel
theorem dM_decayEnzymes_44 : decode bM_decayEnzymes 44 = .ok (.return_, 1) := by decide +kernel
theorem dM_lesser_0 : decode bM_lesser 0 = .ok (.dload_n 2, 1) := by decide +kernel
theorem dM_lesser_1 : decode bM_lesser 1 = .ok (.dload_n 0, 1) := by decide +kernel
theorem dM_lesser_2 : decode bM_lesser 2 = .ok (.dcmp .g, 1) := by decide +kernel
theorem dM_lesser_3 : decode bM_lesser 3 = .ok (.ifCond .ge 7, 3) := by decide +kernel
theorem dM_lesser_6 : decode bM_lesser 6 = .ok (.dload_n 2, 1) := by decide +kernel
theorem dM_lesser_7 : decode bM_lesser 7 = .ok (.goto 4, 3) := by decide +kernel
theorem dM_lesser_10 : decode bM_lesser 10 = .ok (.dload_n 0, 1) := by decide +kernel
theorem dM_lesser_11 : decode bM_lesser 11 = .ok (.dreturn, 1) := by decide +kernel
theorem dN_init_0 : decode bN_init 0 = .ok (.aload_n 0, 1) := by decide +kernel
theorem dN_init_1 : decode bN_init 1 = .ok (.invokespecial 1, 3) := by decide +kernel
theorem dN_init_4 : decode bN_init 4 = .ok (.aload_n 0, 1) := by decide +kernel
theorem dN_init_5 : decode bN_init 5 = .ok (.bipush 13, 2) := by decide +kernel
theorem dN_init_7 : decode bN_init 7 = .ok (.newarray .double, 2) := by decide +kernel
theorem dN_init_9 : decode bN_init 9 = .ok (.putfield 9, 3) := by decide +kernel
theorem dN_init_12 : decode bN_init 12 = .ok (.aload_n 0, 1) := by decide +kernel
theorem dN_init_13 : decode bN_init 13 = .ok (.bipush 32, 2) := by decide +kernel
theorem dN_init_15 : decode bN_init 15 = .ok (.newarray .int, 2) := by decide +kernel
theorem dN_init_17 : decode bN_init 17 = .ok (.putfield 13, 3) := by decide +kernel
theorem dN_init_20 : decode bN_init 20 = .ok (.aload_n 0, 1) := by decide +kernel
theorem dN_init_21 : decode bN_init 21 = .ok (.bipush 32, 2) := by decide +kernel
theorem dN_init_23 : decode bN_init 23 = .ok (.newarray .double, 2) := by decide +kernel
theorem dN_init_25 : decode bN_init 25 = .ok (.putfield 17, 3) := by decide +kernel
theorem dN_init_28 : decode bN_init 28 = .ok (.aload_n 0, 1) := by decide +kernel
theorem dN_init_29 : decode bN_init 29 = .ok (.bipush 104, 2) := by decide +kernel
theorem dN_init_31 : decode bN_init 31 = .ok (.newarray .double, 2) := by decide +kernel
theorem dN_init_33 : decode bN_init 33 = .ok (.putfield 20, 3) := by decide +kernel
theorem dN_init_36 : decode bN_init 36 = .ok (.aload_n 0, 1) := by decide +kernel
theorem dN_init_37 : decode bN_init 37 = .ok (.bipush 8, 2) := by decide +kernel
theorem dN_init_39 : decode bN_init 39 = .ok (.newarray .boolean, 2) := by decide +kernel
theorem dN_init_41 : decode bN_init 41 = .ok (.putfield 23, 3) := by decide +kernel
theorem dN_init_44 : decode bN_init 44 = .ok (.aload_n 0, 1) := by decide +kernel
theorem dN_init_45 : decode bN_init 45 = .ok (.iconst 4, 1) := by decide +kernel
theorem dN_init_46 : decode bN_init 46 = .ok (.newarray .double, 2) := by decide +kernel
theorem dN_init_48 : decode bN_init 48 = .ok (.putfield 27, 3) := by decide +kernel
theorem dN_init_51 : decode bN_init 51 = .ok (.return_, 1) := by decide +kernel
theorem dN_grain_0 : decode bN_grain 0 = .ok (.dload_n 1, 1) := by decide +kernel
theorem dN_grain_1 : decode bN_grain 1 = .ok (.dconst 0, 1) := by decide +kernel
theorem dN_grain_2 : decode bN_grain 2 = .ok (.dcmp .l, 1) := by decide +kernel
theorem dN_grain_3 : decode bN_grain 3 = .ok (.ifCond .le 34, 3) := by decide +kernel
theorem dN_grain_6 : decode bN_grain 6 = .ok (.dload_n 1, 1) := by decide +kernel
theorem dN_grain_7 : decode bN_grain 7 = .ok (.ldc2_w 30, 3) := by decide +kernel
theorem dN_grain_10 : decode bN_grain 10 = .ok (.dcmp .l, 1) := by decide +kernel
theorem dN_grain_11 : decode bN_grain 11 = .ok (.ifCond .gt 26, 3) := by decide +kernel
theorem dN_grain_14 : decode bN_grain 14 = .ok (.dload_n 3, 1) := by decide +kernel
theorem dN_grain_15 : decode bN_grain 15 = .ok (.dconst 0, 1) := by decide +kernel
theorem dN_grain_16 : decode bN_grain 16 = .ok (.dcmp .l, 1) := by decide +kernel
