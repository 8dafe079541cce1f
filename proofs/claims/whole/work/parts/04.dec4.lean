theorem dN_take_36 : decode bN_take 36 = .ok (.bipush 13, 2) := by decide +kernel
theorem dN_take_38 : decode bN_take 38 = .ok (.if_icmp .ge 52, 3) := by decide +kernel
theorem dN_take_41 : decode bN_take 41 = .ok (.aload_n 0, 1) := by decide +kernel
theorem dN_take_42 : decode bN_take 42 = .ok (.getfield 20, 3) := by decide +kernel
theorem dN_take_45 : decode bN_take 45 = .ok (.bipush 13, 2) := by decide +kernel
theorem dN_take_47 : decode bN_take 47 = .ok (.aload_n 0, 1) := by decide +kernel
theorem dN_take_48 : decode bN_take 48 = .ok (.getfield 111, 3) := by decide +kernel
theorem dN_take_51 : decode bN_take 51 = .ok (.imul, 1) := by decide +kernel
theorem dN_take_52 : decode bN_take 52 = .ok (.iload_n 3, 1) := by decide +kernel
theorem dN_take_53 : decode bN_take 53 = .ok (.iadd, 1) := by decide +kernel
theorem dN_take_54 : decode bN_take 54 = .ok (.aload_n 0, 1) := by decide +kernel
theorem dN_take_55 : decode bN_take 55 = .ok (.getfield 9, 3) := by decide +kernel
theorem dN_take_58 : decode bN_take 58 = .ok (.iload_n 3, 1) := by decide +kernel
theorem dN_take_59 : decode bN_take 59 = .ok (.daload, 1) := by decide +kernel
theorem dN_take_60 : decode bN_take 60 = .ok (.dload_n 1, 1) := by decide +kernel
theorem dN_take_61 : decode bN_take 61 = .ok (.dmul, 1) := by decide +kernel
theorem dN_take_62 : decode bN_take 62 = .ok (.dastore, 1) := by decide +kernel
theorem dN_take_63 : decode bN_take 63 = .ok (.aload_n 0, 1) := by decide +kernel
theorem dN_take_64 : decode bN_take 64 = .ok (.getfield 9, 3) := by decide +kernel
theorem dN_take_67 : decode bN_take 67 = .ok (.iload_n 3, 1) := by decide +kernel
theorem dN_take_68 : decode bN_take 68 = .ok (.aload_n 0, 1) := by decide +kernel
theorem dN_take_69 : decode bN_take 69 = .ok (.getfield 9, 3) := by decide +kernel
theorem dN_take_72 : decode bN_take 72 = .ok (.iload_n 3, 1) := by decide +kernel
theorem dN_take_73 : decode bN_take 73 = .ok (.daload, 1) := by decide +kernel
theorem dN_take_74 : decode bN_take 74 = .ok (.aload_n 0, 1) := by decide +kernel
theorem dN_take_75 : decode bN_take 75 = .ok (.getfield 9, 3) := by decide +kernel
theorem dN_take_78 : decode bN_take 78 = .ok (.iload_n 3, 1) := by decide +kernel
theorem dN_take_79 : decode bN_take 79 = .ok (.daload, 1) := by decide +kernel
theorem dN_take_80 : decode bN_take 80 = .ok (.dload_n 1, 1) := by decide +kernel
theorem dN_take_81 : decode bN_take 81 = .ok (.dmul, 1) := by decide +kernel
theorem dN_take_82 : decode bN_take 82 = .ok (.dsub, 1) := by decide +kernel
theorem dN_take_83 : decode bN_take 83 = .ok (.dastore, 1) := by decide +kernel
theorem dN_take_84 : decode bN_take 84 = .ok (.iinc 3 1, 3) := by decide +kernel
theorem dN_take_87 : decode bN_take 87 = .ok (.goto (-52), 3) := by decide +kernel
theorem dN_take_90 : decode bN_take 90 = .ok (.aload_n 0, 1) := by decide +kernel
theorem dN_take_91 : decode bN_take 91 = .ok (.getfield 23, 3) := by decide +kernel
theorem dN_take_94 : decode bN_take 94 = .ok (.aload_n 0, 1) := by decide +kernel
theorem dN_take_95 : decode bN_take 95 = .ok (.getfield 111, 3) := by decide +kernel
theorem dN_take_98 : decode bN_take 98 = .ok (.iconst 0, 1) := by decide +kernel
theorem dN_take_99 : decode bN_take 99 = .ok (.bastore, 1) := by decide +kernel
theorem dN_take_100 : decode bN_take 100 = .ok (.aload_n 0, 1) := by decide +kernel
theorem dN_take_101 : decode bN_take 101 = .ok (.dup, 1) := by decide +kernel
theorem dN_take_102 : decode bN_take 102 = .ok (.getfield 111, 3) := by decide +kernel
theorem dN_take_105 : decode bN_take 105 = .ok (.iconst 1, 1) := by decide +kernel
theorem dN_take_106 : decode bN_take 106 = .ok (.iadd, 1) := by decide +kernel
theorem dN_take_107 : decode bN_take 107 = .ok (.putfield 111, 3) := by decide +kernel
theorem dN_take_110 : decode bN_take 110 = .ok (.aload_n 0, 1) := by decide +kernel
theorem dN_take_111 : decode bN_take 111 = .ok (.getfield 111, 3) := by decide +kernel
theorem dN_take_114 : decode bN_take 114 = .ok (.iconst 1, 1) := by decide +kernel
theorem dN_take_115 : decode bN_take 115 = .ok (.isub, 1) := by decide +kernel
theorem dN_take_116 : decode bN_take 116 = .ok (.ireturn, 1) := by decide +kernel
theorem dN_back_0 : decode bN_back 0 = .ok (.iload_n 1, 1) := by decide +kernel
theorem dN_back_1 : decode bN_back 1 = .ok (.ifCond .lt 34, 3) := by decide +kernel
theorem dN_back_4 : decode bN_back 4 = .ok (.iload_n 1, 1) := by decide +kernel
theorem dN_back_5 : decode bN_back 5 = .ok (.aload_n 0, 1) := by decide +kernel
theorem dN_back_6 : decode bN_back 6 = .ok (.getfield 111, 3) := by decide +kernel
theorem dN_back_9 : decode bN_back 9 = .ok (.if_icmp .ge 26, 3) := by decide +kernel
theorem dN_back_12 : decode bN_back 12 = .ok (.aload_n 0, 1) := by decide +kernel
theorem dN_back_13 : decode bN_back 13 = .ok (.getfield 23, 3) := by decide +kernel
theorem dN_back_16 : decode bN_back 16 = .ok (.iload_n 1, 1) := by decide +kernel
theorem dN_back_17 : decode bN_back 17 = .ok (.baload, 1) := by decide +kernel
theorem dN_back_18 : decode bN_back 18 = .ok (.ifCond .ne 17, 3) := by decide +kernel
theorem dN_back_21 : decode bN_back 21 = .ok (.dload_n 2, 1) := by decide +kernel
theorem dN_back_22 : decode bN_back 22 = .ok (.dconst 0, 1) := by decide +kernel
theorem dN_back_23 : decode bN_back 23 = .ok (.dcmp .l, 1) := by decide +kernel
theorem dN_back_24 : decode bN_back 24 = .ok (.ifCond .lt 11, 3) := by decide +kernel
theorem dN_back_27 : decode bN_back 27 = .ok (.dload_n 2, 1) := by decide +kernel
theorem dN_back_28 : decode bN_back 28 = .ok (.ldc2_w 56, 3) := by decide +kernel
theorem dN_back_31 : decode bN_back 31 = .ok (.dcmp .l, 1) := by decide +kernel
theorem dN_back_32 : decode bN_back 32 = .ok (.ifCond .le 5, 3) := by decide +kernel
theorem dN_back_35 : decode bN_back 35 = .ok (.iconst 0, 1) := by decide +kernel
theorem dN_back_36 : decode bN_back 36 = .ok (.ireturn, 1) := by decide +kernel
theorem dN_back_37 : decode bN_back 37 = .ok (.aload_n 0, 1) := by decide +kernel
theorem dN_back_38 : decode bN_back 38 = .ok (.getfield 20, 3) := by decide +kernel
theorem dN_back_41 : decode bN_back 41 = .ok (.bipush 13, 2) := by decide +kernel
theorem dN_back_43 : decode bN_back 43 = .ok (.iload_n 1, 1) := by decide +kernel
theorem dN_back_44 : decode bN_back 44 = .ok (.imul, 1) := by decide +kernel
theorem dN_back_45 : decode bN_back 45 = .ok (.daload, 1) := by decide +kernel
theorem dN_back_46 : decode bN_back 46 = .ok (.dstore 4, 2) := by decide +kernel
theorem dN_back_48 : decode bN_back 48 = .ok (.aload_n 0, 1) := by decide +kernel
theorem dN_back_49 : decode bN_back 49 = .ok (.getfield 9, 3) := by decide +kernel
theorem dN_back_52 : decode bN_back 52 = .ok (.iconst 0, 1) := by decide +kernel
theorem dN_back_53 : decode bN_back 53 = .ok (.daload, 1) := by decide +kernel
theorem dN_back_54 : decode bN_back 54 = .ok (.dload 4, 2) := by decide +kernel
theorem dN_back_56 : decode bN_back 56 = .ok (.dadd, 1) := by decide +kernel
theorem dN_back_57 : decode bN_back 57 = .ok (.dconst 0, 1) := by decide +kernel
theorem dN_back_58 : decode bN_back 58 = .ok (.dcmp .l, 1) := by decide +kernel
theorem dN_back_59 : decode bN_back 59 = .ok (.ifCond .le 33, 3) := by decide +kernel
theorem dN_back_62 : decode bN_back 62 = .ok (.aload_n 0, 1) := by decide +kernel
theorem dN_back_63 : decode bN_back 63 = .ok (.aload_n 0, 1) := by decide +kernel
theorem dN_back_64 : decode bN_back 64 = .ok (.getfield 62, 3) := by decide +kernel
theorem dN_back_67 : decode bN_back 67 = .ok (.aload_n 0, 1) := by decide +kernel
theorem dN_back_68 : decode bN_back 68 = .ok (.getfield 9, 3) := by decide +kernel
theorem dN_back_71 : decode bN_back 71 = .ok (.iconst 0, 1) := by decide +kernel
theorem dN_back_72 : decode bN_back 72 = .ok (.daload, 1) := by decide +kernel
theorem dN_back_73 : decode bN_back 73 = .ok (.dmul, 1) := by decide +kernel
theorem dN_back_74 : decode bN_back 74 = .ok (.dload_n 2, 1) := by decide +kernel
theorem dN_back_75 : decode bN_back 75 = .ok (.dload 4, 2) := by decide +kernel
theorem dN_back_77 : decode bN_back 77 = .ok (.dmul, 1) := by decide +kernel
theorem dN_back_78 : decode bN_back 78 = .ok (.dadd, 1) := by decide +kernel
theorem dN_back_79 : decode bN_back 79 = .ok (.aload_n 0, 1) := by decide +kernel
theorem dN_back_80 : decode bN_back 80 = .ok (.getfield 9, 3) := by decide +kernel
theorem dN_back_83 : decode bN_back 83 = .ok (.iconst 0, 1) := by decide +kernel
theorem dN_back_84 : decode bN_back 84 = .ok (.daload, 1) := by decide +kernel
theorem dN_back_85 : decode bN_back 85 = .ok (.dload 4, 2) := by decide +kernel
theorem dN_back_87 : decode bN_back 87 = .ok (.dadd, 1) := by decide +kernel
theorem dN_back_88 : decode bN_back 88 = .ok (.ddiv, 1) := by decide +kernel
theorem dN_back_89 : decode bN_back 89 = .ok (.putfield 62, 3) := by decide +kernel
theorem dN_back_92 : decode bN_back 92 = .ok (.iconst 0, 1) := by decide +kernel
theorem dN_back_93 : decode bN_back 93 = .ok (.istore 6, 2) := by decide +kernel
theorem dN_back_95 : decode bN_back 95 = .ok (.iload 6, 2) := by decide +kernel
theorem dN_back_97 : decode bN_back 97 = .ok (.bipush 13, 2) := by decide +kernel
theorem dN_back_99 : decode bN_back 99 = .ok (.if_icmp .ge 36, 3) := by decide +kernel
theorem dN_back_102 : decode bN_back 102 = .ok (.aload_n 0, 1) := by decide +kernel
theorem dN_back_103 : decode bN_back 103 = .ok (.getfield 9, 3) := by decide +kernel
theorem dN_back_106 : decode bN_back 106 = .ok (.iload 6, 2) := by decide +kernel
theorem dN_back_108 : decode bN_back 108 = .ok (.aload_n 0, 1) := by decide +kernel
theorem dN_back_109 : decode bN_back 109 = .ok (.getfield 9, 3) := by decide +kernel
theorem dN_back_112 : decode bN_back 112 = .ok (.iload 6, 2) := by decide +kernel
theorem dN_back_114 : decode bN_back 114 = .ok (.daload, 1) := by decide +kernel
theorem dN_back_115 : decode bN_back 115 = .ok (.aload_n 0, 1) := by decide +kernel
theorem dN_back_116 : decode bN_back 116 = .ok (.getfield 20, 3) := by decide +kernel
theorem dN_back_119 : decode bN_back 119 = .ok (.bipush 13, 2) := by decide +kernel
theorem dN_back_121 : decode bN_back 121 = .ok (.iload_n 1, 1) := by decide +kernel
theorem dN_back_122 : decode bN_back 122 = .ok (.imul, 1) := by decide +kernel
theorem dN_back_123 : decode bN_back 123 = .ok (.iload 6, 2) := by decide +kernel
theorem dN_back_125 : decode bN_back 125 = .ok (.iadd, 1) := by decide +kernel
theorem dN_back_126 : decode bN_back 126 = .ok (.daload, 1) := by decide +kernel
theorem dN_back_127 : decode bN_back 127 = .ok (.dadd, 1) := by decide +kernel
theorem dN_back_128 : decode bN_back 128 = .ok (.dastore, 1) := by decide +kernel
theorem dN_back_129 : decode bN_back 129 = .ok (.iinc 6 1, 3) := by decide +kernel
theorem dN_back_132 : decode bN_back 132 = .ok (.goto (-37), 3) := by decide +kernel
theorem dN_back_135 : decode bN_back 135 = .ok (.aload_n 0, 1) := by decide +kernel
theorem dN_back_136 : decode bN_back 136 = .ok (.getfield 23, 3) := by decide +kernel
theorem dN_back_139 : decode bN_back 139 = .ok (.iload_n 1, 1) := by decide +kernel
theorem dN_back_140 : decode bN_back 140 = .ok (.iconst 1, 1) := by decide +kernel
theorem dN_back_141 : decode bN_back 141 = .ok (.bastore, 1) := by decide +kernel
theorem dN_back_142 : decode bN_back 142 = .ok (.iconst 1, 1) := by decide +kernel
theorem dN_back_143 : decode bN_back 143 = .ok (.ireturn, 1) := by decide +kernel
theorem dN_water_0 : decode bN_water 0 = .ok (.aload_n 0, 1) := by decide +kernel
theorem dN_water_1 : decode bN_water 1 = .ok (.getfield 9, 3) := by decide +kernel
theorem dN_water_4 : decode bN_water 4 = .ok (.iconst 0, 1) := by decide +kernel
theorem dN_water_5 : decode bN_water 5 = .ok (.daload, 1) := by decide +kernel
theorem dN_water_6 : decode bN_water 6 = .ok (.dreturn, 1) := by decide +kernel
theorem dN_converted_0 : decode bN_converted 0 = .ok (.aload_n 0, 1) := by decide +kernel
theorem dN_converted_1 : decode bN_converted 1 = .ok (.invokevirtual 101, 3) := by decide +kernel
theorem dN_converted_4 : decode bN_converted 4 = .ok (.ifCond .ne 32, 3) := by decide +kernel
theorem dN_converted_7 : decode bN_converted 7 = .ok (.ldc2_w 114, 3) := by decide +kernel
theorem dN_converted_10 : decode bN_converted 10 = .ok (.aload_n 0, 1) := by decide +kernel
theorem dN_converted_11 : decode bN_converted 11 = .ok (.getfield 9, 3) := by decide +kernel
theorem dN_converted_14 : decode bN_converted 14 = .ok (.iconst 1, 1) := by decide +kernel
theorem dN_converted_15 : decode bN_converted 15 = .ok (.daload, 1) := by decide +kernel
theorem dN_converted_16 : decode bN_converted 16 = .ok (.aload_n 0, 1) := by decide +kernel
theorem dN_converted_17 : decode bN_converted 17 = .ok (.getfield 9, 3) := by decide +kernel
theorem dN_converted_20 : decode bN_converted 20 = .ok (.iconst 2, 1) := by decide +kernel
theorem dN_converted_21 : decode bN_converted 21 = .ok (.daload, 1) := by decide +kernel
theorem dN_converted_22 : decode bN_converted 22 = .ok (.dadd, 1) := by decide +kernel
theorem dN_converted_23 : decode bN_converted 23 = .ok (.dmul, 1) := by decide +kernel
theorem dN_converted_24 : decode bN_converted 24 = .ok (.aload_n 0, 1) := by decide +kernel
theorem dN_converted_25 : decode bN_converted 25 = .ok (.getfield 32, 3) := by decide +kernel
theorem dN_converted_28 : decode bN_converted 28 = .ok (.dcmp .g, 1) := by decide +kernel
theorem dN_converted_29 : decode bN_converted 29 = .ok (.ifCond .gt 7, 3) := by decide +kernel
theorem dN_converted_32 : decode bN_converted 32 = .ok (.iconst 1, 1) := by decide +kernel
theorem dN_converted_33 : decode bN_converted 33 = .ok (.goto 4, 3) := by decide +kernel
theorem dN_converted_36 : decode bN_converted 36 = .ok (.iconst 0, 1) := by decide +kernel
theorem dN_converted_37 : decode bN_converted 37 = .ok (.ireturn, 1) := by decide +kernel
theorem dH_init_0 : decode bH_init 0 = .ok (.aload_n 0, 1) := by decide +kernel
theorem dH_init_1 : decode bH_init 1 = .ok (.invokespecial 3, 3) := by decide +kernel
theorem dH_init_4 : decode bH_init 4 = .ok (.aload_n 0, 1) := by decide +kernel
theorem dH_init_5 : decode bH_init 5 = .ok (.bipush 32, 2) := by decide +kernel
theorem dH_init_7 : decode bH_init 7 = .ok (.newarray .int, 2) := by decide +kernel
theorem dH_init_9 : decode bH_init 9 = .ok (.putfield 9, 3) := by decide +kernel
theorem dH_init_12 : decode bH_init 12 = .ok (.aload_n 0, 1) := by decide +kernel
theorem dH_init_13 : decode bH_init 13 = .ok (.bipush 32, 2) := by decide +kernel
theorem dH_init_15 : decode bH_init 15 = .ok (.newarray .double, 2) := by decide +kernel
theorem dH_init_17 : decode bH_init 17 = .ok (.putfield 15, 3) := by decide +kernel
theorem dH_init_20 : decode bH_init 20 = .ok (.return_, 1) := by decide +kernel
theorem dH_append_0 : decode bH_append 0 = .ok (.aload_n 0, 1) := by decide +kernel
theorem dH_append_1 : decode bH_append 1 = .ok (.getfield 19, 3) := by decide +kernel
theorem dH_append_4 : decode bH_append 4 = .ok (.bipush 32, 2) := by decide +kernel
theorem dH_append_6 : decode bH_append 6 = .ok (.if_icmp .ge 25, 3) := by decide +kernel
theorem dH_append_9 : decode bH_append 9 = .ok (.aload_n 0, 1) := by decide +kernel
theorem dH_append_10 : decode bH_append 10 = .ok (.getfield 19, 3) := by decide +kernel
theorem dH_append_13 : decode bH_append 13 = .ok (.ifCond .le 20, 3) := by decide +kernel
theorem dH_append_16 : decode bH_append 16 = .ok (.iload_n 1, 1) := by decide +kernel
theorem dH_append_17 : decode bH_append 17 = .ok (.aload_n 0, 1) := by decide +kernel
theorem dH_append_18 : decode bH_append 18 = .ok (.getfield 9, 3) := by decide +kernel
theorem dH_append_21 : decode bH_append 21 = .ok (.aload_n 0, 1) := by decide +kernel
theorem dH_append_22 : decode bH_append 22 = .ok (.getfield 19, 3) := by decide +kernel
theorem dH_append_25 : decode bH_append 25 = .ok (.iconst 1, 1) := by decide +kernel
theorem dH_append_26 : decode bH_append 26 = .ok (.isub, 1) := by decide +kernel
theorem dH_append_27 : decode bH_append 27 = .ok (.iaload, 1) := by decide +kernel
theorem dH_append_28 : decode bH_append 28 = .ok (.if_icmp .gt 5, 3) := by decide +kernel
theorem dH_append_31 : decode bH_append 31 = .ok (.iconst 0, 1) := by decide +kernel
theorem dH_append_32 : decode bH_append 32 = .ok (.ireturn, 1) := by decide +kernel
theorem dH_append_33 : decode bH_append 33 = .ok (.aload_n 0, 1) := by decide +kernel
theorem dH_append_34 : decode bH_append 34 = .ok (.getfield 9, 3) := by decide +kernel
theorem dH_append_37 : decode bH_append 37 = .ok (.aload_n 0, 1) := by decide +kernel
theorem dH_append_38 : decode bH_append 38 = .ok (.getfield 19, 3) := by decide +kernel
theorem dH_append_41 : decode bH_append 41 = .ok (.iload_n 1, 1) := by decide +kernel
theorem dH_append_42 : decode bH_append 42 = .ok (.iastore, 1) := by decide +kernel
theorem dH_append_43 : decode bH_append 43 = .ok (.aload_n 0, 1) := by decide +kernel
theorem dH_append_44 : decode bH_append 44 = .ok (.getfield 15, 3) := by decide +kernel
theorem dH_append_47 : decode bH_append 47 = .ok (.aload_n 0, 1) := by decide +kernel
theorem dH_append_48 : decode bH_append 48 = .ok (.getfield 19, 3) := by decide +kernel
theorem dH_append_51 : decode bH_append 51 = .ok (.dload_n 2, 1) := by decide +kernel
theorem dH_append_52 : decode bH_append 52 = .ok (.dastore, 1) := by decide +kernel
theorem dH_append_53 : decode bH_append 53 = .ok (.aload_n 0, 1) := by decide +kernel
theorem dH_append_54 : decode bH_append 54 = .ok (.aload_n 0, 1) := by decide +kernel
theorem dH_append_55 : decode bH_append 55 = .ok (.getfield 19, 3) := by decide +kernel
theorem dH_append_58 : decode bH_append 58 = .ok (.iconst 1, 1) := by decide +kernel
theorem dH_append_59 : decode bH_append 59 = .ok (.iadd, 1) := by decide +kernel
theorem dH_append_60 : decode bH_append 60 = .ok (.putfield 19, 3) := by decide +kernel
theorem dH_append_63 : decode bH_append 63 = .ok (.iconst 1, 1) := by decide +kernel
theorem dH_append_64 : decode bH_append 64 = .ok (.ireturn, 1) := by decide +kernel
theorem dH_heated_0 : decode bH_heated 0 = .ok (.aload_n 0, 1) := by decide +kernel
theorem dH_heated_1 : decode bH_heated 1 = .ok (.getfield 23, 3) := by decide +kernel
theorem dH_heated_4 : decode bH_heated 4 = .ok (.aload_n 0, 1) := by decide +kernel
theorem dH_heated_5 : decode bH_heated 5 = .ok (.getfield 19, 3) := by decide +kernel
theorem dH_heated_8 : decode bH_heated 8 = .ok (.if_icmp .ge 29, 3) := by decide +kernel
theorem dH_heated_11 : decode bH_heated 11 = .ok (.aload_n 0, 1) := by decide +kernel
theorem dH_heated_12 : decode bH_heated 12 = .ok (.getfield 9, 3) := by decide +kernel
theorem dH_heated_15 : decode bH_heated 15 = .ok (.aload_n 0, 1) := by decide +kernel
theorem dH_heated_16 : decode bH_heated 16 = .ok (.getfield 23, 3) := by decide +kernel
theorem dH_heated_19 : decode bH_heated 19 = .ok (.iaload, 1) := by decide +kernel
theorem dH_heated_20 : decode bH_heated 20 = .ok (.iload_n 3, 1) := by decide +kernel
theorem dH_heated_21 : decode bH_heated 21 = .ok (.if_icmp .gt 16, 3) := by decide +kernel
theorem dH_heated_24 : decode bH_heated 24 = .ok (.aload_n 0, 1) := by decide +kernel
theorem dH_heated_25 : decode bH_heated 25 = .ok (.aload_n 0, 1) := by decide +kernel
theorem dH_heated_26 : decode bH_heated 26 = .ok (.getfield 23, 3) := by decide +kernel
theorem dH_heated_29 : decode bH_heated 29 = .ok (.iconst 1, 1) := by decide +kernel
theorem dH_heated_30 : decode bH_heated 30 = .ok (.iadd, 1) := by decide +kernel
theorem dH_heated_31 : decode bH_heated 31 = .ok (.putfield 23, 3) := by decide +kernel
theorem dH_heated_34 : decode bH_heated 34 = .ok (.goto (-34), 3) := by decide +kernel
theorem dH_heated_37 : decode bH_heated 37 = .ok (.aload_n 0, 1) := by decide +kernel
theorem dH_heated_38 : decode bH_heated 38 = .ok (.getfield 23, 3) := by decide +kernel
theorem dH_heated_41 : decode bH_heated 41 = .ok (.aload_n 0, 1) := by decide +kernel
theorem dH_heated_42 : decode bH_heated 42 = .ok (.getfield 19, 3) := by decide +kernel
theorem dH_heated_45 : decode bH_heated 45 = .ok (.if_icmp .ge 32, 3) := by decide +kernel
theorem dH_heated_48 : decode bH_heated 48 = .ok (.dload_n 1, 1) := by decide +kernel
theorem dH_heated_49 : decode bH_heated 49 = .ok (.aload_n 0, 1) := by decide +kernel
theorem dH_heated_50 : decode bH_heated 50 = .ok (.getfield 15, 3) := by decide +kernel
theorem dH_heated_53 : decode bH_heated 53 = .ok (.aload_n 0, 1) := by decide +kernel
theorem dH_heated_54 : decode bH_heated 54 = .ok (.getfield 23, 3) := by decide +kernel
theorem dH_heated_57 : decode bH_heated 57 = .ok (.daload, 1) := by decide +kernel
theorem dH_heated_58 : decode bH_heated 58 = .ok (.dload_n 1, 1) := by decide +kernel
theorem dH_heated_59 : decode bH_heated 59 = .ok (.dsub, 1) := by decide +kernel
theorem dH_heated_60 : decode bH_heated 60 = .ok (.aload_n 0, 1) := by decide +kernel
theorem dH_heated_61 : decode bH_heated 61 = .ok (.getfield 9, 3) := by decide +kernel
theorem dH_heated_64 : decode bH_heated 64 = .ok (.aload_n 0, 1) := by decide +kernel
theorem dH_heated_65 : decode bH_heated 65 = .ok (.getfield 23, 3) := by decide +kernel
theorem dH_heated_68 : decode bH_heated 68 = .ok (.iaload, 1) := by decide +kernel
theorem dH_heated_69 : decode bH_heated 69 = .ok (.iload_n 3, 1) := by decide +kernel
theorem dH_heated_70 : decode bH_heated 70 = .ok (.isub, 1) := by decide +kernel
theorem dH_heated_71 : decode bH_heated 71 = .ok (.i2d, 1) := by decide +kernel
theorem dH_heated_72 : decode bH_heated 72 = .ok (.ddiv, 1) := by decide +kernel
theorem dH_heated_73 : decode bH_heated 73 = .ok (.dadd, 1) := by decide +kernel
theorem dH_heated_74 : decode bH_heated 74 = .ok (.goto 4, 3) := by decide +kernel
theorem dH_heated_77 : decode bH_heated 77 = .ok (.dload_n 1, 1) := by decide +kernel
theorem dH_heated_78 : decode bH_heated 78 = .ok (.dreturn, 1) := by decide +kernel
theorem dQ_init_0 : decode bQ_init 0 = .ok (.aload_n 0, 1) := by decide +kernel
theorem dQ_init_1 : decode bQ_init 1 = .ok (.invokespecial 5, 3) := by decide +kernel
theorem dQ_init_4 : decode bQ_init 4 = .ok (.aload_n 0, 1) := by decide +kernel
theorem dQ_init_5 : decode bQ_init 5 = .ok (.bipush 9, 2) := by decide +kernel
theorem dQ_init_7 : decode bQ_init 7 = .ok (.newarray .double, 2) := by decide +kernel
theorem dQ_init_9 : decode bQ_init 9 = .ok (.putfield 11, 3) := by decide +kernel
theorem dQ_init_12 : decode bQ_init 12 = .ok (.aload_n 0, 1) := by decide +kernel
theorem dQ_init_13 : decode bQ_init 13 = .ok (.invokevirtual 15, 3) := by decide +kernel
theorem dQ_init_16 : decode bQ_init 16 = .ok (.return_, 1) := by decide +kernel
theorem dQ_rate_0 : decode bQ_rate 0 = .ok (.aload_n 0, 1) := by decide +kernel
theorem dQ_rate_1 : decode bQ_rate 1 = .ok (.getfield 11, 3) := by decide +kernel
theorem dQ_rate_4 : decode bQ_rate 4 = .ok (.iconst 0, 1) := by decide +kernel
theorem dQ_rate_5 : decode bQ_rate 5 = .ok (.iload_n 1, 1) := by decide +kernel
theorem dQ_rate_6 : decode bQ_rate 6 = .ok (.iadd, 1) := by decide +kernel
theorem dQ_rate_7 : decode bQ_rate 7 = .ok (.daload, 1) := by decide +kernel
theorem dQ_rate_8 : decode bQ_rate 8 = .ok (.dreturn, 1) := by decide +kernel
theorem dQ_decay_0 : decode bQ_decay 0 = .ok (.aload_n 0, 1) := by decide +kernel
theorem dQ_decay_1 : decode bQ_decay 1 = .ok (.getfield 11, 3) := by decide +kernel
theorem dQ_decay_4 : decode bQ_decay 4 = .ok (.iconst 4, 1) := by decide +kernel
theorem dQ_decay_5 : decode bQ_decay 5 = .ok (.iload_n 1, 1) := by decide +kernel
theorem dQ_decay_6 : decode bQ_decay 6 = .ok (.iadd, 1) := by decide +kernel
theorem dQ_decay_7 : decode bQ_decay 7 = .ok (.daload, 1) := by decide +kernel
theorem dQ_decay_8 : decode bQ_decay 8 = .ok (.dreturn, 1) := by decide +kernel
theorem dQ_gelling_0 : decode bQ_gelling 0 = .ok (.aload_n 0, 1) := by decide +kernel
theorem dQ_gelling_1 : decode bQ_gelling 1 = .ok (.getfield 11, 3) := by decide +kernel
theorem dQ_gelling_4 : decode bQ_gelling 4 = .ok (.bipush 8, 2) := by decide +kernel
theorem dQ_gelling_6 : decode bQ_gelling 6 = .ok (.daload, 1) := by decide +kernel
theorem dQ_gelling_7 : decode bQ_gelling 7 = .ok (.dreturn, 1) := by decide +kernel
theorem dQ_moveTo_0 : decode bQ_moveTo 0 = .ok (.dload_n 1, 1) := by decide +kernel
theorem dQ_moveTo_1 : decode bQ_moveTo 1 = .ok (.aload_n 0, 1) := by decide +kernel
theorem dQ_moveTo_2 : decode bQ_moveTo 2 = .ok (.getfield 18, 3) := by decide +kernel
theorem dQ_moveTo_5 : decode bQ_moveTo 5 = .ok (.dcmp .l, 1) := by decide +kernel
theorem dQ_moveTo_6 : decode bQ_moveTo 6 = .ok (.ifCond .eq 12, 3) := by decide +kernel
theorem dQ_moveTo_9 : decode bQ_moveTo 9 = .ok (.aload_n 0, 1) := by decide +kernel
theorem dQ_moveTo_10 : decode bQ_moveTo 10 = .ok (.dload_n 1, 1) := by decide +kernel
theorem dQ_moveTo_11 : decode bQ_moveTo 11 = .ok (.putfield 18, 3) := by decide +kernel
theorem dQ_moveTo_14 : decode bQ_moveTo 14 = .ok (.aload_n 0, 1) := by decide +kernel
theorem dQ_moveTo_15 : decode bQ_moveTo 15 = .ok (.invokevirtual 15, 3) := by decide +kernel
theorem dQ_moveTo_18 : decode bQ_moveTo 18 = .ok (.return_, 1) := by decide +kernel
theorem dQ_reckonValues_0 : decode bQ_reckonValues 0 = .ok (.aload_n 0, 1) := by decide +kernel
theorem dQ_reckonValues_1 : decode bQ_reckonValues 1 = .ok (.invokevirtual 22, 3) := by decide +kernel
theorem dQ_reckonValues_4 : decode bQ_reckonValues 4 = .ok (.istore_n 1, 1) := by decide +kernel
theorem dQ_reckonValues_5 : decode bQ_reckonValues 5 = .ok (.iconst 0, 1) := by decide +kernel
theorem dQ_reckonValues_6 : decode bQ_reckonValues 6 = .ok (.istore_n 2, 1) := by decide +kernel
theorem dQ_reckonValues_7 : decode bQ_reckonValues 7 = .ok (.iload_n 2, 1) := by decide +kernel
theorem dQ_reckonValues_8 : decode bQ_reckonValues 8 = .ok (.bipush 9, 2) := by decide +kernel
theorem dQ_reckonValues_10 : decode bQ_reckonValues 10 = .ok (.if_icmp .ge 21, 3) := by decide +kernel
theorem dQ_reckonValues_13 : decode bQ_reckonValues 13 = .ok (.aload_n 0, 1) := by decide +kernel
theorem dQ_reckonValues_14 : decode bQ_reckonValues 14 = .ok (.getfield 11, 3) := by decide +kernel
theorem dQ_reckonValues_17 : decode bQ_reckonValues 17 = .ok (.iload_n 2, 1) := by decide +kernel
theorem dQ_reckonValues_18 : decode bQ_reckonValues 18 = .ok (.aload_n 0, 1) := by decide +kernel
theorem dQ_reckonValues_19 : decode bQ_reckonValues 19 = .ok (.iload_n 2, 1) := by decide +kernel
theorem dQ_reckonValues_20 : decode bQ_reckonValues 20 = .ok (.iload_n 1, 1) := by decide +kernel
theorem dQ_reckonValues_21 : decode bQ_reckonValues 21 = .ok (.invokevirtual 26, 3) := by decide +kernel
theorem dQ_reckonValues_24 : decode bQ_reckonValues 24 = .ok (.dastore, 1) := by decide +kernel
theorem dQ_reckonValues_25 : decode bQ_reckonValues 25 = .ok (.iinc 2 1, 3) := by decide +kernel
theorem dQ_reckonValues_28 : decode bQ_reckonValues 28 = .ok (.goto (-21), 3) := by decide +kernel
theorem dQ_reckonValues_31 : decode bQ_reckonValues 31 = .ok (.return_, 1) := by decide +kernel
theorem dQ_valueFrom_0 : decode bQ_valueFrom 0 = .ok (.iload_n 2, 1) := by decide +kernel
theorem dQ_valueFrom_1 : decode bQ_valueFrom 1 = .ok (.ifCond .ge 9, 3) := by decide +kernel
theorem dQ_valueFrom_4 : decode bQ_valueFrom 4 = .ok (.iload_n 1, 1) := by decide +kernel
theorem dQ_valueFrom_5 : decode bQ_valueFrom 5 = .ok (.iconst 0, 1) := by decide +kernel
theorem dQ_valueFrom_6 : decode bQ_valueFrom 6 = .ok (.invokestatic 30, 3) := by decide +kernel
theorem dQ_valueFrom_9 : decode bQ_valueFrom 9 = .ok (.dreturn, 1) := by decide +kernel
theorem dQ_valueFrom_10 : decode bQ_valueFrom 10 = .ok (.iload_n 2, 1) := by decide +kernel
theorem dQ_valueFrom_11 : decode bQ_valueFrom 11 = .ok (.bipush 8, 2) := by decide +kernel
theorem dQ_valueFrom_13 : decode bQ_valueFrom 13 = .ok (.if_icmp .ge 12, 3) := by decide +kernel
theorem dQ_valueFrom_16 : decode bQ_valueFrom 16 = .ok (.aload_n 0, 1) := by decide +kernel
theorem dQ_valueFrom_17 : decode bQ_valueFrom 17 = .ok (.iload_n 1, 1) := by decide +kernel
theorem dQ_valueFrom_18 : decode bQ_valueFrom 18 = .ok (.iload_n 2, 1) := by decide +kernel
theorem dQ_valueFrom_19 : decode bQ_valueFrom 19 = .ok (.invokevirtual 33, 3) := by decide +kernel
theorem dQ_valueFrom_22 : decode bQ_valueFrom 22 = .ok (.goto 9, 3) := by decide +kernel
theorem dQ_valueFrom_25 : decode bQ_valueFrom 25 = .ok (.iload_n 1, 1) := by decide +kernel
theorem dQ_valueFrom_26 : decode bQ_valueFrom 26 = .ok (.bipush 8, 2) := by decide +kernel
theorem dQ_valueFrom_28 : decode bQ_valueFrom 28 = .ok (.invokestatic 30, 3) := by decide +kernel
theorem dQ_valueFrom_31 : decode bQ_valueFrom 31 = .ok (.dreturn, 1) := by decide +kernel
theorem dQ_markNotAbove_0 : decode bQ_markNotAbove 0 = .ok (.iconst (-1), 1) := by decide +kernel
theorem dQ_markNotAbove_1 : decode bQ_markNotAbove 1 = .ok (.istore_n 1, 1) := by decide +kernel
theorem dQ_markNotAbove_2 : decode bQ_markNotAbove 2 = .ok (.iload_n 1, 1) := by decide +kernel
theorem dQ_markNotAbove_3 : decode bQ_markNotAbove 3 = .ok (.bipush 8, 2) := by decide +kernel
theorem dQ_markNotAbove_5 : decode bQ_markNotAbove 5 = .ok (.if_icmp .ge 26, 3) := by decide +kernel
theorem dQ_markNotAbove_8 : decode bQ_markNotAbove 8 = .ok (.getstatic 36, 3) := by decide +kernel
theorem dQ_markNotAbove_11 : decode bQ_markNotAbove 11 = .ok (.iload_n 1, 1) := by decide +kernel
theorem dQ_markNotAbove_12 : decode bQ_markNotAbove 12 = .ok (.iconst 1, 1) := by decide +kernel
theorem dQ_markNotAbove_13 : decode bQ_markNotAbove 13 = .ok (.iadd, 1) := by decide +kernel
theorem dQ_markNotAbove_14 : decode bQ_markNotAbove 14 = .ok (.iaload, 1) := by decide +kernel
theorem dQ_markNotAbove_15 : decode bQ_markNotAbove 15 = .ok (.i2d, 1) := by decide +kernel
theorem dQ_markNotAbove_16 : decode bQ_markNotAbove 16 = .ok (.aload_n 0, 1) := by decide +kernel
theorem dQ_markNotAbove_17 : decode bQ_markNotAbove 17 = .ok (.getfield 18, 3) := by decide +kernel
theorem dQ_markNotAbove_20 : decode bQ_markNotAbove 20 = .ok (.dcmp .g, 1) := by decide +kernel
theorem dQ_markNotAbove_21 : decode bQ_markNotAbove 21 = .ok (.ifCond .gt 10, 3) := by decide +kernel
theorem dQ_markNotAbove_24 : decode bQ_markNotAbove 24 = .ok (.iload_n 1, 1) := by decide +kernel
theorem dQ_markNotAbove_25 : decode bQ_markNotAbove 25 = .ok (.iconst 1, 1) := by decide +kernel
theorem dQ_markNotAbove_26 : decode bQ_markNotAbove 26 = .ok (.iadd, 1) := by decide +kernel
theorem dQ_markNotAbove_27 : decode bQ_markNotAbove 27 = .ok (.istore_n 1, 1) := by decide +kernel
theorem dQ_markNotAbove_28 : decode bQ_markNotAbove 28 = .ok (.goto (-26), 3) := by decide +kernel
theorem dQ_markNotAbove_31 : decode bQ_markNotAbove 31 = .ok (.iload_n 1, 1) := by decide +kernel
theorem dQ_markNotAbove_32 : decode bQ_markNotAbove 32 = .ok (.ireturn, 1) := by decide +kernel
theorem dQ_between_0 : decode bQ_between 0 = .ok (.iload_n 1, 1) := by decide +kernel
theorem dQ_between_1 : decode bQ_between 1 = .ok (.iload_n 2, 1) := by decide +kernel
theorem dQ_between_2 : decode bQ_between 2 = .ok (.invokestatic 30, 3) := by decide +kernel
theorem dQ_between_5 : decode bQ_between 5 = .ok (.dstore_n 3, 1) := by decide +kernel
theorem dQ_between_6 : decode bQ_between 6 = .ok (.iload_n 1, 1) := by decide +kernel
theorem dQ_between_7 : decode bQ_between 7 = .ok (.iload_n 2, 1) := by decide +kernel
theorem dQ_between_8 : decode bQ_between 8 = .ok (.iconst 1, 1) := by decide +kernel
theorem dQ_between_9 : decode bQ_between 9 = .ok (.iadd, 1) := by decide +kernel
theorem dQ_between_10 : decode bQ_between 10 = .ok (.invokestatic 30, 3) := by decide +kernel
theorem dQ_between_13 : decode bQ_between 13 = .ok (.dstore 5, 2) := by decide +kernel
theorem dQ_between_15 : decode bQ_between 15 = .ok (.getstatic 36, 3) := by decide +kernel
theorem dQ_between_18 : decode bQ_between 18 = .ok (.iload_n 2, 1) := by decide +kernel
theorem dQ_between_19 : decode bQ_between 19 = .ok (.iaload, 1) := by decide +kernel
theorem dQ_between_20 : decode bQ_between 20 = .ok (.istore 7, 2) := by decide +kernel
theorem dQ_between_22 : decode bQ_between 22 = .ok (.getstatic 36, 3) := by decide +kernel
theorem dQ_between_25 : decode bQ_between 25 = .ok (.iload_n 2, 1) := by decide +kernel
theorem dQ_between_26 : decode bQ_between 26 = .ok (.iconst 1, 1) := by decide +kernel
theorem dQ_between_27 : decode bQ_between 27 = .ok (.iadd, 1) := by decide +kernel
theorem dQ_between_28 : decode bQ_between 28 = .ok (.iaload, 1) := by decide +kernel
theorem dQ_between_29 : decode bQ_between 29 = .ok (.istore 8, 2) := by decide +kernel
theorem dQ_between_31 : decode bQ_between 31 = .ok (.dload_n 3, 1) := by decide +kernel
theorem dQ_between_32 : decode bQ_between 32 = .ok (.dload 5, 2) := by decide +kernel
theorem dQ_between_34 : decode bQ_between 34 = .ok (.dload_n 3, 1) := by decide +kernel
theorem dQ_between_35 : decode bQ_between 35 = .ok (.dsub, 1) := by decide +kernel
theorem dQ_between_36 : decode bQ_between 36 = .ok (.aload_n 0, 1) := by decide +kernel
theorem dQ_between_37 : decode bQ_between 37 = .ok (.getfield 18, 3) := by decide +kernel
theorem dQ_between_40 : decode bQ_between 40 = .ok (.iload 7, 2) := by decide +kernel
theorem dQ_between_42 : decode bQ_between 42 = .ok (.i2d, 1) := by decide +kernel
theorem dQ_between_43 : decode bQ_between 43 = .ok (.dsub, 1) := by decide +kernel
theorem dQ_between_44 : decode bQ_between 44 = .ok (.dmul, 1) := by decide +kernel
theorem dQ_between_45 : decode bQ_between 45 = .ok (.iload 8, 2) := by decide +kernel
theorem dQ_between_47 : decode bQ_between 47 = .ok (.iload 7, 2) := by decide +kernel
theorem dQ_between_49 : decode bQ_between 49 = .ok (.isub, 1) := by decide +kernel
theorem dQ_between_50 : decode bQ_between 50 = .ok (.i2d, 1) := by decide +kernel
theorem dQ_between_51 : decode bQ_between 51 = .ok (.ddiv, 1) := by decide +kernel
theorem dQ_between_52 : decode bQ_between 52 = .ok (.dadd, 1) := by decide +kernel
theorem dQ_between_53 : decode bQ_between 53 = .ok (.dreturn, 1) := by decide +kernel
theorem dQ_atMark_0 : decode bQ_atMark 0 = .ok (.getstatic 40, 3) := by decide +kernel
theorem dQ_atMark_3 : decode bQ_atMark 3 = .ok (.iload_n 0, 1) := by decide +kernel
theorem dQ_atMark_4 : decode bQ_atMark 4 = .ok (.bipush 9, 2) := by decide +kernel
theorem dQ_atMark_6 : decode bQ_atMark 6 = .ok (.imul, 1) := by decide +kernel
theorem dQ_atMark_7 : decode bQ_atMark 7 = .ok (.iload_n 1, 1) := by decide +kernel
theorem dQ_atMark_8 : decode bQ_atMark 8 = .ok (.iadd, 1) := by decide +kernel
theorem dQ_atMark_9 : decode bQ_atMark 9 = .ok (.iaload, 1) := by decide +kernel
theorem dQ_atMark_10 : decode bQ_atMark 10 = .ok (.i2d, 1) := by decide +kernel
theorem dQ_atMark_11 : decode bQ_atMark 11 = .ok (.iload_n 0, 1) := by decide +kernel
theorem dQ_atMark_12 : decode bQ_atMark 12 = .ok (.iconst 4, 1) := by decide +kernel
theorem dQ_atMark_13 : decode bQ_atMark 13 = .ok (.if_icmp .ge 9, 3) := by decide +kernel
theorem dQ_atMark_16 : decode bQ_atMark 16 = .ok (.ldc2_w 43, 3) := by decide +kernel
theorem dQ_atMark_19 : decode bQ_atMark 19 = .ok (.goto 6, 3) := by decide +kernel
theorem dQ_atMark_22 : decode bQ_atMark 22 = .ok (.ldc2_w 45, 3) := by decide +kernel
theorem dQ_atMark_25 : decode bQ_atMark 25 = .ok (.ddiv, 1) := by decide +kernel
theorem dQ_atMark_26 : decode bQ_atMark 26 = .ok (.dreturn, 1) := by decide +kernel
theorem dL_law_0 : decode code 0 = .ok (.new 7, 3) := by decide +kernel
theorem dL_law_3 : decode code 3 = .ok (.dup, 1) := by decide +kernel
theorem dL_law_4 : decode code 4 = .ok (.invokespecial 9, 3) := by decide +kernel
theorem dL_law_7 : decode code 7 = .ok (.astore_n 1, 1) := by decide +kernel
theorem dL_law_8 : decode code 8 = .ok (.new 10, 3) := by decide +kernel
theorem dL_law_11 : decode code 11 = .ok (.dup, 1) := by decide +kernel
theorem dL_law_12 : decode code 12 = .ok (.invokespecial 12, 3) := by decide +kernel
theorem dL_law_15 : decode code 15 = .ok (.astore_n 2, 1) := by decide +kernel
theorem dL_law_16 : decode code 16 = .ok (.iconst 0, 1) := by decide +kernel
theorem dL_law_17 : decode code 17 = .ok (.istore_n 3, 1) := by decide +kernel
theorem dL_law_18 : decode code 18 = .ok (.iload_n 3, 1) := by decide +kernel
theorem dL_law_19 : decode code 19 = .ok (.aload_n 0, 1) := by decide +kernel
theorem dL_law_20 : decode code 20 = .ok (.arraylength, 1) := by decide +kernel
theorem dL_law_21 : decode code 21 = .ok (.iconst 4, 1) := by decide +kernel
theorem dL_law_22 : decode code 22 = .ok (.isub, 1) := by decide +kernel
theorem dL_law_23 : decode code 23 = .ok (.if_icmp .gt 642, 3) := by decide +kernel
theorem dL_law_26 : decode code 26 = .ok (.aload_n 0, 1) := by decide +kernel
theorem dL_law_27 : decode code 27 = .ok (.iload_n 3, 1) := by decide +kernel
theorem dL_law_28 : decode code 28 = .ok (.iaload, 1) := by decide +kernel
theorem dL_law_29 : decode code 29 = .ok (.bipush 15, 2) := by decide +kernel
theorem dL_law_31 : decode code 31 = .ok (.iand, 1) := by decide +kernel
theorem dL_law_32 : decode code 32 = .ok (.tableswitch 627 0 12 #[68, 131, 204, 247, 290, 313, 364, 405, 456, 497, 530, 573, 614], 68) := by decide +kernel
theorem dL_law_100 : decode code 100 = .ok (.aload_n 1, 1) := by decide +kernel
theorem dL_law_101 : decode code 101 = .ok (.aload_n 0, 1) := by decide +kernel
theorem dL_law_102 : decode code 102 = .ok (.iload_n 3, 1) := by decide +kernel
theorem dL_law_103 : decode code 103 = .ok (.iconst 1, 1) := by decide +kernel
theorem dL_law_104 : decode code 104 = .ok (.iadd, 1) := by decide +kernel
theorem dL_law_105 : decode code 105 = .ok (.iaload, 1) := by decide +kernel
theorem dL_law_106 : decode code 106 = .ok (.i2d, 1) := by decide +kernel
theorem dL_law_107 : decode code 107 = .ok (.ldc2_w 13, 3) := by decide +kernel
theorem dL_law_110 : decode code 110 = .ok (.dmul, 1) := by decide +kernel
theorem dL_law_111 : decode code 111 = .ok (.aload_n 0, 1) := by decide +kernel
theorem dL_law_112 : decode code 112 = .ok (.iload_n 3, 1) := by decide +kernel
theorem dL_law_113 : decode code 113 = .ok (.iconst 2, 1) := by decide +kernel
theorem dL_law_114 : decode code 114 = .ok (.iadd, 1) := by decide +kernel
theorem dL_law_115 : decode code 115 = .ok (.iaload, 1) := by decide +kernel
theorem dL_law_116 : decode code 116 = .ok (.i2d, 1) := by decide +kernel
theorem dL_law_117 : decode code 117 = .ok (.ldc2_w 13, 3) := by decide +kernel
theorem dL_law_120 : decode code 120 = .ok (.dmul, 1) := by decide +kernel
