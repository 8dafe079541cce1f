theorem dM_init_0 : decode bM_init 0 = .ok (.aload_n 0, 1) := by decide +kernel
theorem dM_init_1 : decode bM_init 1 = .ok (.invokespecial 3, 3) := by decide +kernel
theorem dM_init_4 : decode bM_init 4 = .ok (.aload_n 0, 1) := by decide +kernel
theorem dM_init_5 : decode bM_init 5 = .ok (.bipush 13, 2) := by decide +kernel
theorem dM_init_7 : decode bM_init 7 = .ok (.newarray .double, 2) := by decide +kernel
theorem dM_init_9 : decode bM_init 9 = .ok (.putfield 9, 3) := by decide +kernel
theorem dM_init_12 : decode bM_init 12 = .ok (.aload_n 0, 1) := by decide +kernel
theorem dM_init_13 : decode bM_init 13 = .ok (.bipush 8, 2) := by decide +kernel
theorem dM_init_15 : decode bM_init 15 = .ok (.bipush 13, 2) := by decide +kernel
theorem dM_init_17 : decode bM_init 17 = .ok (.multianewarray 13 2, 4) := by decide +kernel
theorem dM_init_21 : decode bM_init 21 = .ok (.putfield 15, 3) := by decide +kernel
theorem dM_init_24 : decode bM_init 24 = .ok (.aload_n 0, 1) := by decide +kernel
theorem dM_init_25 : decode bM_init 25 = .ok (.bipush 8, 2) := by decide +kernel
theorem dM_init_27 : decode bM_init 27 = .ok (.newarray .boolean, 2) := by decide +kernel
theorem dM_init_29 : decode bM_init 29 = .ok (.putfield 18, 3) := by decide +kernel
theorem dM_init_32 : decode bM_init 32 = .ok (.aload_n 0, 1) := by decide +kernel
theorem dM_init_33 : decode bM_init 33 = .ok (.iconst 4, 1) := by decide +kernel
theorem dM_init_34 : decode bM_init 34 = .ok (.newarray .double, 2) := by decide +kernel
theorem dM_init_36 : decode bM_init 36 = .ok (.putfield 22, 3) := by decide +kernel
theorem dM_init_39 : decode bM_init 39 = .ok (.aload_n 0, 1) := by decide +kernel
theorem dM_init_40 : decode bM_init 40 = .ok (.new 25, 3) := by decide +kernel
theorem dM_init_43 : decode bM_init 43 = .ok (.dup, 1) := by decide +kernel
theorem dM_init_44 : decode bM_init 44 = .ok (.invokespecial 27, 3) := by decide +kernel
theorem dM_init_47 : decode bM_init 47 = .ok (.putfield 28, 3) := by decide +kernel
theorem dM_init_50 : decode bM_init 50 = .ok (.aload_n 0, 1) := by decide +kernel
theorem dM_init_51 : decode bM_init 51 = .ok (.new 32, 3) := by decide +kernel
theorem dM_init_54 : decode bM_init 54 = .ok (.dup, 1) := by decide +kernel
theorem dM_init_55 : decode bM_init 55 = .ok (.invokespecial 34, 3) := by decide +kernel
theorem dM_init_58 : decode bM_init 58 = .ok (.putfield 35, 3) := by decide +kernel
theorem dM_init_61 : decode bM_init 61 = .ok (.return_, 1) := by decide +kernel
theorem dM_grain_0 : decode bM_grain 0 = .ok (.dload_n 1, 1) := by decide +kernel
theorem dM_grain_1 : decode bM_grain 1 = .ok (.dconst 0, 1) := by decide +kernel
theorem dM_grain_2 : decode bM_grain 2 = .ok (.dcmp .l, 1) := by decide +kernel
theorem dM_grain_3 : decode bM_grain 3 = .ok (.ifCond .le 27, 3) := by decide +kernel
theorem dM_grain_6 : decode bM_grain 6 = .ok (.dload_n 1, 1) := by decide +kernel
theorem dM_grain_7 : decode bM_grain 7 = .ok (.ldc2_w 39, 3) := by decide +kernel
theorem dM_grain_10 : decode bM_grain 10 = .ok (.dcmp .g, 1) := by decide +kernel
theorem dM_grain_11 : decode bM_grain 11 = .ok (.ifCond .gt 19, 3) := by decide +kernel
theorem dM_grain_14 : decode bM_grain 14 = .ok (.dload_n 3, 1) := by decide +kernel
theorem dM_grain_15 : decode bM_grain 15 = .ok (.dconst 0, 1) := by decide +kernel
theorem dM_grain_16 : decode bM_grain 16 = .ok (.dcmp .l, 1) := by decide +kernel
theorem dM_grain_17 : decode bM_grain 17 = .ok (.ifCond .lt 13, 3) := by decide +kernel
theorem dM_grain_20 : decode bM_grain 20 = .ok (.dload_n 3, 1) := by decide +kernel
theorem dM_grain_21 : decode bM_grain 21 = .ok (.dconst 1, 1) := by decide +kernel
theorem dM_grain_22 : decode bM_grain 22 = .ok (.dcmp .g, 1) := by decide +kernel
theorem dM_grain_23 : decode bM_grain 23 = .ok (.ifCond .gt 7, 3) := by decide +kernel
theorem dM_grain_26 : decode bM_grain 26 = .ok (.iconst 1, 1) := by decide +kernel
theorem dM_grain_27 : decode bM_grain 27 = .ok (.goto 4, 3) := by decide +kernel
theorem dM_grain_30 : decode bM_grain 30 = .ok (.iconst 0, 1) := by decide +kernel
theorem dM_grain_31 : decode bM_grain 31 = .ok (.istore 6, 2) := by decide +kernel
theorem dM_grain_33 : decode bM_grain 33 = .ok (.iload 6, 2) := by decide +kernel
theorem dM_grain_35 : decode bM_grain 35 = .ok (.ifCond .eq 14, 3) := by decide +kernel
theorem dM_grain_38 : decode bM_grain 38 = .ok (.iload 5, 2) := by decide +kernel
theorem dM_grain_40 : decode bM_grain 40 = .ok (.ifCond .lt 9, 3) := by decide +kernel
theorem dM_grain_43 : decode bM_grain 43 = .ok (.iload 5, 2) := by decide +kernel
theorem dM_grain_45 : decode bM_grain 45 = .ok (.iconst 3, 1) := by decide +kernel
theorem dM_grain_46 : decode bM_grain 46 = .ok (.if_icmp .lt 5, 3) := by decide +kernel
theorem dM_grain_49 : decode bM_grain 49 = .ok (.iconst 0, 1) := by decide +kernel
theorem dM_grain_50 : decode bM_grain 50 = .ok (.ireturn, 1) := by decide +kernel
theorem dM_grain_51 : decode bM_grain 51 = .ok (.aload_n 0, 1) := by decide +kernel
theorem dM_grain_52 : decode bM_grain 52 = .ok (.getfield 9, 3) := by decide +kernel
theorem dM_grain_55 : decode bM_grain 55 = .ok (.iconst 1, 1) := by decide +kernel
theorem dM_grain_56 : decode bM_grain 56 = .ok (.aload_n 0, 1) := by decide +kernel
theorem dM_grain_57 : decode bM_grain 57 = .ok (.getfield 9, 3) := by decide +kernel
theorem dM_grain_60 : decode bM_grain 60 = .ok (.iconst 1, 1) := by decide +kernel
theorem dM_grain_61 : decode bM_grain 61 = .ok (.daload, 1) := by decide +kernel
theorem dM_grain_62 : decode bM_grain 62 = .ok (.dload_n 1, 1) := by decide +kernel
theorem dM_grain_63 : decode bM_grain 63 = .ok (.dload_n 3, 1) := by decide +kernel
theorem dM_grain_64 : decode bM_grain 64 = .ok (.dmul, 1) := by decide +kernel
theorem dM_grain_65 : decode bM_grain 65 = .ok (.dadd, 1) := by decide +kernel
theorem dM_grain_66 : decode bM_grain 66 = .ok (.dastore, 1) := by decide +kernel
theorem dM_grain_67 : decode bM_grain 67 = .ok (.aload_n 0, 1) := by decide +kernel
theorem dM_grain_68 : decode bM_grain 68 = .ok (.aload_n 0, 1) := by decide +kernel
theorem dM_grain_69 : decode bM_grain 69 = .ok (.getfield 41, 3) := by decide +kernel
theorem dM_grain_72 : decode bM_grain 72 = .ok (.dload_n 1, 1) := by decide +kernel
theorem dM_grain_73 : decode bM_grain 73 = .ok (.dload_n 3, 1) := by decide +kernel
theorem dM_grain_74 : decode bM_grain 74 = .ok (.dmul, 1) := by decide +kernel
theorem dM_grain_75 : decode bM_grain 75 = .ok (.dadd, 1) := by decide +kernel
theorem dM_grain_76 : decode bM_grain 76 = .ok (.putfield 41, 3) := by decide +kernel
theorem dM_grain_79 : decode bM_grain 79 = .ok (.aload_n 0, 1) := by decide +kernel
theorem dM_grain_80 : decode bM_grain 80 = .ok (.getfield 9, 3) := by decide +kernel
theorem dM_grain_83 : decode bM_grain 83 = .ok (.bipush 8, 2) := by decide +kernel
theorem dM_grain_85 : decode bM_grain 85 = .ok (.aload_n 0, 1) := by decide +kernel
theorem dM_grain_86 : decode bM_grain 86 = .ok (.getfield 9, 3) := by decide +kernel
theorem dM_grain_89 : decode bM_grain 89 = .ok (.bipush 8, 2) := by decide +kernel
theorem dM_grain_91 : decode bM_grain 91 = .ok (.daload, 1) := by decide +kernel
theorem dM_grain_92 : decode bM_grain 92 = .ok (.dload_n 1, 1) := by decide +kernel
theorem dM_grain_93 : decode bM_grain 93 = .ok (.getstatic 45, 3) := by decide +kernel
theorem dM_grain_96 : decode bM_grain 96 = .ok (.iload 5, 2) := by decide +kernel
theorem dM_grain_98 : decode bM_grain 98 = .ok (.iaload, 1) := by decide +kernel
theorem dM_grain_99 : decode bM_grain 99 = .ok (.i2d, 1) := by decide +kernel
theorem dM_grain_100 : decode bM_grain 100 = .ok (.ldc2_w 49, 3) := by decide +kernel
theorem dM_grain_103 : decode bM_grain 103 = .ok (.ddiv, 1) := by decide +kernel
theorem dM_grain_104 : decode bM_grain 104 = .ok (.dmul, 1) := by decide +kernel
theorem dM_grain_105 : decode bM_grain 105 = .ok (.dadd, 1) := by decide +kernel
theorem dM_grain_106 : decode bM_grain 106 = .ok (.dastore, 1) := by decide +kernel
theorem dM_grain_107 : decode bM_grain 107 = .ok (.iconst 0, 1) := by decide +kernel
theorem dM_grain_108 : decode bM_grain 108 = .ok (.istore 7, 2) := by decide +kernel
theorem dM_grain_110 : decode bM_grain 110 = .ok (.iload 7, 2) := by decide +kernel
theorem dM_grain_112 : decode bM_grain 112 = .ok (.iconst 4, 1) := by decide +kernel
theorem dM_grain_113 : decode bM_grain 113 = .ok (.if_icmp .ge 52, 3) := by decide +kernel
theorem dM_grain_116 : decode bM_grain 116 = .ok (.getstatic 51, 3) := by decide +kernel
theorem dM_grain_119 : decode bM_grain 119 = .ok (.iload 5, 2) := by decide +kernel
theorem dM_grain_121 : decode bM_grain 121 = .ok (.iconst 4, 1) := by decide +kernel
theorem dM_grain_122 : decode bM_grain 122 = .ok (.imul, 1) := by decide +kernel
theorem dM_grain_123 : decode bM_grain 123 = .ok (.iload 7, 2) := by decide +kernel
theorem dM_grain_125 : decode bM_grain 125 = .ok (.iadd, 1) := by decide +kernel
theorem dM_grain_126 : decode bM_grain 126 = .ok (.iaload, 1) := by decide +kernel
theorem dM_grain_127 : decode bM_grain 127 = .ok (.i2d, 1) := by decide +kernel
theorem dM_grain_128 : decode bM_grain 128 = .ok (.ldc2_w 54, 3) := by decide +kernel
theorem dM_grain_131 : decode bM_grain 131 = .ok (.ddiv, 1) := by decide +kernel
theorem dM_grain_132 : decode bM_grain 132 = .ok (.dstore 8, 2) := by decide +kernel
theorem dM_grain_134 : decode bM_grain 134 = .ok (.aload_n 0, 1) := by decide +kernel
theorem dM_grain_135 : decode bM_grain 135 = .ok (.getfield 9, 3) := by decide +kernel
theorem dM_grain_138 : decode bM_grain 138 = .ok (.bipush 9, 2) := by decide +kernel
theorem dM_grain_140 : decode bM_grain 140 = .ok (.iload 7, 2) := by decide +kernel
theorem dM_grain_142 : decode bM_grain 142 = .ok (.iadd, 1) := by decide +kernel
theorem dM_grain_143 : decode bM_grain 143 = .ok (.aload_n 0, 1) := by decide +kernel
theorem dM_grain_144 : decode bM_grain 144 = .ok (.getfield 9, 3) := by decide +kernel
theorem dM_grain_147 : decode bM_grain 147 = .ok (.bipush 9, 2) := by decide +kernel
theorem dM_grain_149 : decode bM_grain 149 = .ok (.iload 7, 2) := by decide +kernel
theorem dM_grain_151 : decode bM_grain 151 = .ok (.iadd, 1) := by decide +kernel
theorem dM_grain_152 : decode bM_grain 152 = .ok (.daload, 1) := by decide +kernel
theorem dM_grain_153 : decode bM_grain 153 = .ok (.dload_n 1, 1) := by decide +kernel
theorem dM_grain_154 : decode bM_grain 154 = .ok (.dload 8, 2) := by decide +kernel
theorem dM_grain_156 : decode bM_grain 156 = .ok (.dmul, 1) := by decide +kernel
theorem dM_grain_157 : decode bM_grain 157 = .ok (.dadd, 1) := by decide +kernel
theorem dM_grain_158 : decode bM_grain 158 = .ok (.dastore, 1) := by decide +kernel
theorem dM_grain_159 : decode bM_grain 159 = .ok (.iinc 7 1, 3) := by decide +kernel
theorem dM_grain_162 : decode bM_grain 162 = .ok (.goto (-52), 3) := by decide +kernel
theorem dM_grain_165 : decode bM_grain 165 = .ok (.aload_n 0, 1) := by decide +kernel
theorem dM_grain_166 : decode bM_grain 166 = .ok (.iconst 1, 1) := by decide +kernel
theorem dM_grain_167 : decode bM_grain 167 = .ok (.putfield 56, 3) := by decide +kernel
theorem dM_grain_170 : decode bM_grain 170 = .ok (.iconst 1, 1) := by decide +kernel
theorem dM_grain_171 : decode bM_grain 171 = .ok (.ireturn, 1) := by decide +kernel
theorem dM_liquor_0 : decode bM_liquor 0 = .ok (.dload_n 1, 1) := by decide +kernel
theorem dM_liquor_1 : decode bM_liquor 1 = .ok (.dconst 0, 1) := by decide +kernel
theorem dM_liquor_2 : decode bM_liquor 2 = .ok (.dcmp .l, 1) := by decide +kernel
theorem dM_liquor_3 : decode bM_liquor 3 = .ok (.ifCond .le 40, 3) := by decide +kernel
theorem dM_liquor_6 : decode bM_liquor 6 = .ok (.dload_n 1, 1) := by decide +kernel
theorem dM_liquor_7 : decode bM_liquor 7 = .ok (.ldc2_w 60, 3) := by decide +kernel
theorem dM_liquor_10 : decode bM_liquor 10 = .ok (.dcmp .g, 1) := by decide +kernel
theorem dM_liquor_11 : decode bM_liquor 11 = .ok (.ifCond .gt 32, 3) := by decide +kernel
theorem dM_liquor_14 : decode bM_liquor 14 = .ok (.dload_n 3, 1) := by decide +kernel
theorem dM_liquor_15 : decode bM_liquor 15 = .ok (.invokestatic 62, 3) := by decide +kernel
theorem dM_liquor_18 : decode bM_liquor 18 = .ok (.ifCond .eq 25, 3) := by decide +kernel
theorem dM_liquor_21 : decode bM_liquor 21 = .ok (.dload 5, 2) := by decide +kernel
theorem dM_liquor_23 : decode bM_liquor 23 = .ok (.ldc2_w 66, 3) := by decide +kernel
theorem dM_liquor_26 : decode bM_liquor 26 = .ok (.dcmp .l, 1) := by decide +kernel
theorem dM_liquor_27 : decode bM_liquor 27 = .ok (.ifCond .lt 16, 3) := by decide +kernel
theorem dM_liquor_30 : decode bM_liquor 30 = .ok (.dload 5, 2) := by decide +kernel
theorem dM_liquor_32 : decode bM_liquor 32 = .ok (.ldc2_w 54, 3) := by decide +kernel
theorem dM_liquor_35 : decode bM_liquor 35 = .ok (.dcmp .g, 1) := by decide +kernel
theorem dM_liquor_36 : decode bM_liquor 36 = .ok (.ifCond .gt 7, 3) := by decide +kernel
theorem dM_liquor_39 : decode bM_liquor 39 = .ok (.iconst 1, 1) := by decide +kernel
theorem dM_liquor_40 : decode bM_liquor 40 = .ok (.goto 4, 3) := by decide +kernel
theorem dM_liquor_43 : decode bM_liquor 43 = .ok (.iconst 0, 1) := by decide +kernel
theorem dM_liquor_44 : decode bM_liquor 44 = .ok (.istore 7, 2) := by decide +kernel
theorem dM_liquor_46 : decode bM_liquor 46 = .ok (.iload 7, 2) := by decide +kernel
theorem dM_liquor_48 : decode bM_liquor 48 = .ok (.ifCond .ne 5, 3) := by decide +kernel
theorem dM_liquor_51 : decode bM_liquor 51 = .ok (.iconst 0, 1) := by decide +kernel
theorem dM_liquor_52 : decode bM_liquor 52 = .ok (.ireturn, 1) := by decide +kernel
theorem dM_liquor_53 : decode bM_liquor 53 = .ok (.aload_n 0, 1) := by decide +kernel
theorem dM_liquor_54 : decode bM_liquor 54 = .ok (.getfield 9, 3) := by decide +kernel
theorem dM_liquor_57 : decode bM_liquor 57 = .ok (.iconst 0, 1) := by decide +kernel
theorem dM_liquor_58 : decode bM_liquor 58 = .ok (.daload, 1) := by decide +kernel
theorem dM_liquor_59 : decode bM_liquor 59 = .ok (.dstore 8, 2) := by decide +kernel
theorem dM_liquor_61 : decode bM_liquor 61 = .ok (.aload_n 0, 1) := by decide +kernel
theorem dM_liquor_62 : decode bM_liquor 62 = .ok (.aload_n 0, 1) := by decide +kernel
theorem dM_liquor_63 : decode bM_liquor 63 = .ok (.getfield 68, 3) := by decide +kernel
theorem dM_liquor_66 : decode bM_liquor 66 = .ok (.dload 8, 2) := by decide +kernel
theorem dM_liquor_68 : decode bM_liquor 68 = .ok (.dload_n 3, 1) := by decide +kernel
theorem dM_liquor_69 : decode bM_liquor 69 = .ok (.dload_n 1, 1) := by decide +kernel
theorem dM_liquor_70 : decode bM_liquor 70 = .ok (.invokestatic 71, 3) := by decide +kernel
theorem dM_liquor_73 : decode bM_liquor 73 = .ok (.putfield 68, 3) := by decide +kernel
theorem dM_liquor_76 : decode bM_liquor 76 = .ok (.aload_n 0, 1) := by decide +kernel
theorem dM_liquor_77 : decode bM_liquor 77 = .ok (.aload_n 0, 1) := by decide +kernel
theorem dM_liquor_78 : decode bM_liquor 78 = .ok (.getfield 75, 3) := by decide +kernel
theorem dM_liquor_81 : decode bM_liquor 81 = .ok (.dload 8, 2) := by decide +kernel
theorem dM_liquor_83 : decode bM_liquor 83 = .ok (.dload 5, 2) := by decide +kernel
theorem dM_liquor_85 : decode bM_liquor 85 = .ok (.dload_n 1, 1) := by decide +kernel
theorem dM_liquor_86 : decode bM_liquor 86 = .ok (.invokestatic 71, 3) := by decide +kernel
theorem dM_liquor_89 : decode bM_liquor 89 = .ok (.putfield 75, 3) := by decide +kernel
theorem dM_liquor_92 : decode bM_liquor 92 = .ok (.aload_n 0, 1) := by decide +kernel
theorem dM_liquor_93 : decode bM_liquor 93 = .ok (.getfield 9, 3) := by decide +kernel
theorem dM_liquor_96 : decode bM_liquor 96 = .ok (.iconst 0, 1) := by decide +kernel
theorem dM_liquor_97 : decode bM_liquor 97 = .ok (.dload 8, 2) := by decide +kernel
theorem dM_liquor_99 : decode bM_liquor 99 = .ok (.dload_n 1, 1) := by decide +kernel
theorem dM_liquor_100 : decode bM_liquor 100 = .ok (.dadd, 1) := by decide +kernel
theorem dM_liquor_101 : decode bM_liquor 101 = .ok (.dastore, 1) := by decide +kernel
theorem dM_liquor_102 : decode bM_liquor 102 = .ok (.aload_n 0, 1) := by decide +kernel
theorem dM_liquor_103 : decode bM_liquor 103 = .ok (.iconst 1, 1) := by decide +kernel
theorem dM_liquor_104 : decode bM_liquor 104 = .ok (.putfield 78, 3) := by decide +kernel
theorem dM_liquor_107 : decode bM_liquor 107 = .ok (.iconst 1, 1) := by decide +kernel
theorem dM_liquor_108 : decode bM_liquor 108 = .ok (.ireturn, 1) := by decide +kernel
theorem dM_enzyme_0 : decode bM_enzyme 0 = .ok (.dload_n 2, 1) := by decide +kernel
theorem dM_enzyme_1 : decode bM_enzyme 1 = .ok (.dconst 0, 1) := by decide +kernel
theorem dM_enzyme_2 : decode bM_enzyme 2 = .ok (.dcmp .l, 1) := by decide +kernel
theorem dM_enzyme_3 : decode bM_enzyme 3 = .ok (.ifCond .le 15, 3) := by decide +kernel
theorem dM_enzyme_6 : decode bM_enzyme 6 = .ok (.dload_n 2, 1) := by decide +kernel
theorem dM_enzyme_7 : decode bM_enzyme 7 = .ok (.ldc2_w 39, 3) := by decide +kernel
theorem dM_enzyme_10 : decode bM_enzyme 10 = .ok (.dcmp .g, 1) := by decide +kernel
theorem dM_enzyme_11 : decode bM_enzyme 11 = .ok (.ifCond .gt 7, 3) := by decide +kernel
theorem dM_enzyme_14 : decode bM_enzyme 14 = .ok (.iconst 1, 1) := by decide +kernel
theorem dM_enzyme_15 : decode bM_enzyme 15 = .ok (.goto 4, 3) := by decide +kernel
theorem dM_enzyme_18 : decode bM_enzyme 18 = .ok (.iconst 0, 1) := by decide +kernel
theorem dM_enzyme_19 : decode bM_enzyme 19 = .ok (.istore 4, 2) := by decide +kernel
theorem dM_enzyme_21 : decode bM_enzyme 21 = .ok (.iload 4, 2) := by decide +kernel
theorem dM_enzyme_23 : decode bM_enzyme 23 = .ok (.ifCond .eq 12, 3) := by decide +kernel
theorem dM_enzyme_26 : decode bM_enzyme 26 = .ok (.iload_n 1, 1) := by decide +kernel
theorem dM_enzyme_27 : decode bM_enzyme 27 = .ok (.ifCond .lt 8, 3) := by decide +kernel
theorem dM_enzyme_30 : decode bM_enzyme 30 = .ok (.iload_n 1, 1) := by decide +kernel
theorem dM_enzyme_31 : decode bM_enzyme 31 = .ok (.iconst 4, 1) := by decide +kernel
theorem dM_enzyme_32 : decode bM_enzyme 32 = .ok (.if_icmp .lt 5, 3) := by decide +kernel
theorem dM_enzyme_35 : decode bM_enzyme 35 = .ok (.iconst 0, 1) := by decide +kernel
theorem dM_enzyme_36 : decode bM_enzyme 36 = .ok (.ireturn, 1) := by decide +kernel
theorem dM_enzyme_37 : decode bM_enzyme 37 = .ok (.aload_n 0, 1) := by decide +kernel
theorem dM_enzyme_38 : decode bM_enzyme 38 = .ok (.getfield 9, 3) := by decide +kernel
theorem dM_enzyme_41 : decode bM_enzyme 41 = .ok (.bipush 9, 2) := by decide +kernel
theorem dM_enzyme_43 : decode bM_enzyme 43 = .ok (.iload_n 1, 1) := by decide +kernel
theorem dM_enzyme_44 : decode bM_enzyme 44 = .ok (.iadd, 1) := by decide +kernel
theorem dM_enzyme_45 : decode bM_enzyme 45 = .ok (.aload_n 0, 1) := by decide +kernel
theorem dM_enzyme_46 : decode bM_enzyme 46 = .ok (.getfield 9, 3) := by decide +kernel
theorem dM_enzyme_49 : decode bM_enzyme 49 = .ok (.bipush 9, 2) := by decide +kernel
theorem dM_enzyme_51 : decode bM_enzyme 51 = .ok (.iload_n 1, 1) := by decide +kernel
theorem dM_enzyme_52 : decode bM_enzyme 52 = .ok (.iadd, 1) := by decide +kernel
theorem dM_enzyme_53 : decode bM_enzyme 53 = .ok (.daload, 1) := by decide +kernel
theorem dM_enzyme_54 : decode bM_enzyme 54 = .ok (.dload_n 2, 1) := by decide +kernel
theorem dM_enzyme_55 : decode bM_enzyme 55 = .ok (.dadd, 1) := by decide +kernel
theorem dM_enzyme_56 : decode bM_enzyme 56 = .ok (.dastore, 1) := by decide +kernel
theorem dM_enzyme_57 : decode bM_enzyme 57 = .ok (.iconst 1, 1) := by decide +kernel
theorem dM_enzyme_58 : decode bM_enzyme 58 = .ok (.ireturn, 1) := by decide +kernel
theorem dM_step_0 : decode bM_step 0 = .ok (.iload_n 1, 1) := by decide +kernel
theorem dM_step_1 : decode bM_step 1 = .ok (.aload_n 0, 1) := by decide +kernel
theorem dM_step_2 : decode bM_step 2 = .ok (.getfield 81, 3) := by decide +kernel
theorem dM_step_5 : decode bM_step 5 = .ok (.if_icmp .le 16, 3) := by decide +kernel
theorem dM_step_8 : decode bM_step 8 = .ok (.iload_n 1, 1) := by decide +kernel
theorem dM_step_9 : decode bM_step 9 = .ok (.ldc 85, 2) := by decide +kernel
theorem dM_step_11 : decode bM_step 11 = .ok (.if_icmp .gt 10, 3) := by decide +kernel
theorem dM_step_14 : decode bM_step 14 = .ok (.dload_n 2, 1) := by decide +kernel
theorem dM_step_15 : decode bM_step 15 = .ok (.invokestatic 62, 3) := by decide +kernel
theorem dM_step_18 : decode bM_step 18 = .ok (.ifCond .ne 5, 3) := by decide +kernel
theorem dM_step_21 : decode bM_step 21 = .ok (.iconst 0, 1) := by decide +kernel
theorem dM_step_22 : decode bM_step 22 = .ok (.ireturn, 1) := by decide +kernel
theorem dM_step_23 : decode bM_step 23 = .ok (.aload_n 0, 1) := by decide +kernel
theorem dM_step_24 : decode bM_step 24 = .ok (.getfield 28, 3) := by decide +kernel
theorem dM_step_27 : decode bM_step 27 = .ok (.iload_n 1, 1) := by decide +kernel
theorem dM_step_28 : decode bM_step 28 = .ok (.dload_n 2, 1) := by decide +kernel
theorem dM_step_29 : decode bM_step 29 = .ok (.invokevirtual 86, 3) := by decide +kernel
theorem dM_step_32 : decode bM_step 32 = .ok (.ireturn, 1) := by decide +kernel
theorem dM_run_0 : decode bM_run 0 = .ok (.aload_n 0, 1) := by decide +kernel
theorem dM_run_1 : decode bM_run 1 = .ok (.invokevirtual 90, 3) := by decide +kernel
theorem dM_run_4 : decode bM_run 4 = .ok (.ifCond .ne 24, 3) := by decide +kernel
theorem dM_run_7 : decode bM_run 7 = .ok (.iload_n 1, 1) := by decide +kernel
theorem dM_run_8 : decode bM_run 8 = .ok (.ifCond .lt 20, 3) := by decide +kernel
theorem dM_run_11 : decode bM_run 11 = .ok (.iload_n 1, 1) := by decide +kernel
theorem dM_run_12 : decode bM_run 12 = .ok (.ldc 94, 2) := by decide +kernel
theorem dM_run_14 : decode bM_run 14 = .ok (.if_icmp .gt 14, 3) := by decide +kernel
theorem dM_run_17 : decode bM_run 17 = .ok (.iload_n 1, 1) := by decide +kernel
theorem dM_run_18 : decode bM_run 18 = .ok (.ldc 85, 2) := by decide +kernel
theorem dM_run_20 : decode bM_run 20 = .ok (.aload_n 0, 1) := by decide +kernel
theorem dM_run_21 : decode bM_run 21 = .ok (.getfield 81, 3) := by decide +kernel
theorem dM_run_24 : decode bM_run 24 = .ok (.isub, 1) := by decide +kernel
theorem dM_run_25 : decode bM_run 25 = .ok (.if_icmp .le 5, 3) := by decide +kernel
theorem dM_run_28 : decode bM_run 28 = .ok (.iconst (-1), 1) := by decide +kernel
theorem dM_run_29 : decode bM_run 29 = .ok (.ireturn, 1) := by decide +kernel
theorem dM_run_30 : decode bM_run 30 = .ok (.iconst 0, 1) := by decide +kernel
theorem dM_run_31 : decode bM_run 31 = .ok (.istore_n 2, 1) := by decide +kernel
theorem dM_run_32 : decode bM_run 32 = .ok (.iload_n 2, 1) := by decide +kernel
theorem dM_run_33 : decode bM_run 33 = .ok (.iload_n 1, 1) := by decide +kernel
theorem dM_run_34 : decode bM_run 34 = .ok (.if_icmp .ge 13, 3) := by decide +kernel
theorem dM_run_37 : decode bM_run 37 = .ok (.aload_n 0, 1) := by decide +kernel
theorem dM_run_38 : decode bM_run 38 = .ok (.invokevirtual 95, 3) := by decide +kernel
theorem dM_run_41 : decode bM_run 41 = .ok (.iinc 2 1, 3) := by decide +kernel
theorem dM_run_44 : decode bM_run 44 = .ok (.goto (-12), 3) := by decide +kernel
theorem dM_run_47 : decode bM_run 47 = .ok (.aload_n 0, 1) := by decide +kernel
theorem dM_run_48 : decode bM_run 48 = .ok (.getfield 81, 3) := by decide +kernel
theorem dM_run_51 : decode bM_run 51 = .ok (.ireturn, 1) := by decide +kernel
theorem dM_sugar_0 : decode bM_sugar 0 = .ok (.iload_n 1, 1) := by decide +kernel
theorem dM_sugar_1 : decode bM_sugar 1 = .ok (.ifCond .lt 19, 3) := by decide +kernel
theorem dM_sugar_4 : decode bM_sugar 4 = .ok (.iload_n 1, 1) := by decide +kernel
theorem dM_sugar_5 : decode bM_sugar 5 = .ok (.iconst 5, 1) := by decide +kernel
theorem dM_sugar_6 : decode bM_sugar 6 = .ok (.if_icmp .ge 14, 3) := by decide +kernel
theorem dM_sugar_9 : decode bM_sugar 9 = .ok (.aload_n 0, 1) := by decide +kernel
theorem dM_sugar_10 : decode bM_sugar 10 = .ok (.getfield 9, 3) := by decide +kernel
theorem dM_sugar_13 : decode bM_sugar 13 = .ok (.iconst 3, 1) := by decide +kernel
theorem dM_sugar_14 : decode bM_sugar 14 = .ok (.iload_n 1, 1) := by decide +kernel
theorem dM_sugar_15 : decode bM_sugar 15 = .ok (.iadd, 1) := by decide +kernel
theorem dM_sugar_16 : decode bM_sugar 16 = .ok (.daload, 1) := by decide +kernel
theorem dM_sugar_17 : decode bM_sugar 17 = .ok (.goto 6, 3) := by decide +kernel
theorem dM_sugar_20 : decode bM_sugar 20 = .ok (.ldc2_w 98, 3) := by decide +kernel
theorem dM_sugar_23 : decode bM_sugar 23 = .ok (.dreturn, 1) := by decide +kernel
theorem dM_starch_0 : decode bM_starch 0 = .ok (.aload_n 0, 1) := by decide +kernel
theorem dM_starch_1 : decode bM_starch 1 = .ok (.getfield 9, 3) := by decide +kernel
theorem dM_starch_4 : decode bM_starch 4 = .ok (.iconst 1, 1) := by decide +kernel
theorem dM_starch_5 : decode bM_starch 5 = .ok (.daload, 1) := by decide +kernel
theorem dM_starch_6 : decode bM_starch 6 = .ok (.aload_n 0, 1) := by decide +kernel
theorem dM_starch_7 : decode bM_starch 7 = .ok (.getfield 9, 3) := by decide +kernel
theorem dM_starch_10 : decode bM_starch 10 = .ok (.iconst 2, 1) := by decide +kernel
theorem dM_starch_11 : decode bM_starch 11 = .ok (.daload, 1) := by decide +kernel
theorem dM_starch_12 : decode bM_starch 12 = .ok (.dadd, 1) := by decide +kernel
theorem dM_starch_13 : decode bM_starch 13 = .ok (.dreturn, 1) := by decide +kernel
theorem dM_enzymeLeft_0 : decode bM_enzymeLeft 0 = .ok (.iload_n 1, 1) := by decide +kernel
theorem dM_enzymeLeft_1 : decode bM_enzymeLeft 1 = .ok (.ifCond .lt 20, 3) := by decide +kernel
theorem dM_enzymeLeft_4 : decode bM_enzymeLeft 4 = .ok (.iload_n 1, 1) := by decide +kernel
theorem dM_enzymeLeft_5 : decode bM_enzymeLeft 5 = .ok (.iconst 4, 1) := by decide +kernel
theorem dM_enzymeLeft_6 : decode bM_enzymeLeft 6 = .ok (.if_icmp .ge 15, 3) := by decide +kernel
theorem dM_enzymeLeft_9 : decode bM_enzymeLeft 9 = .ok (.aload_n 0, 1) := by decide +kernel
theorem dM_enzymeLeft_10 : decode bM_enzymeLeft 10 = .ok (.getfield 9, 3) := by decide +kernel
theorem dM_enzymeLeft_13 : decode bM_enzymeLeft 13 = .ok (.bipush 9, 2) := by decide +kernel
theorem dM_enzymeLeft_15 : decode bM_enzymeLeft 15 = .ok (.iload_n 1, 1) := by decide +kernel
theorem dM_enzymeLeft_16 : decode bM_enzymeLeft 16 = .ok (.iadd, 1) := by decide +kernel
theorem dM_enzymeLeft_17 : decode bM_enzymeLeft 17 = .ok (.daload, 1) := by decide +kernel
theorem dM_enzymeLeft_18 : decode bM_enzymeLeft 18 = .ok (.goto 6, 3) := by decide +kernel
theorem dM_enzymeLeft_21 : decode bM_enzymeLeft 21 = .ok (.ldc2_w 98, 3) := by decide +kernel
theorem dM_enzymeLeft_24 : decode bM_enzymeLeft 24 = .ok (.dreturn, 1) := by decide +kernel
theorem dM_degrees_0 : decode bM_degrees 0 = .ok (.aload_n 0, 1) := by decide +kernel
theorem dM_degrees_1 : decode bM_degrees 1 = .ok (.getfield 68, 3) := by decide +kernel
theorem dM_degrees_4 : decode bM_degrees 4 = .ok (.dreturn, 1) := by decide +kernel
theorem dM_take_0 : decode bM_take 0 = .ok (.dload_n 1, 1) := by decide +kernel
theorem dM_take_1 : decode bM_take 1 = .ok (.dconst 0, 1) := by decide +kernel
theorem dM_take_2 : decode bM_take 2 = .ok (.dcmp .l, 1) := by decide +kernel
theorem dM_take_3 : decode bM_take 3 = .ok (.ifCond .le 13, 3) := by decide +kernel
theorem dM_take_6 : decode bM_take 6 = .ok (.dload_n 1, 1) := by decide +kernel
theorem dM_take_7 : decode bM_take 7 = .ok (.dconst 1, 1) := by decide +kernel
theorem dM_take_8 : decode bM_take 8 = .ok (.dcmp .g, 1) := by decide +kernel
theorem dM_take_9 : decode bM_take 9 = .ok (.ifCond .ge 7, 3) := by decide +kernel
theorem dM_take_12 : decode bM_take 12 = .ok (.iconst 1, 1) := by decide +kernel
theorem dM_take_13 : decode bM_take 13 = .ok (.goto 4, 3) := by decide +kernel
theorem dM_take_16 : decode bM_take 16 = .ok (.iconst 0, 1) := by decide +kernel
theorem dM_take_17 : decode bM_take 17 = .ok (.istore_n 3, 1) := by decide +kernel
theorem dM_take_18 : decode bM_take 18 = .ok (.iload_n 3, 1) := by decide +kernel
theorem dM_take_19 : decode bM_take 19 = .ok (.ifCond .eq 10, 3) := by decide +kernel
theorem dM_take_22 : decode bM_take 22 = .ok (.aload_n 0, 1) := by decide +kernel
theorem dM_take_23 : decode bM_take 23 = .ok (.invokevirtual 90, 3) := by decide +kernel
theorem dM_take_26 : decode bM_take 26 = .ok (.ifCond .eq 5, 3) := by decide +kernel
theorem dM_take_29 : decode bM_take 29 = .ok (.iconst (-1), 1) := by decide +kernel
theorem dM_take_30 : decode bM_take 30 = .ok (.ireturn, 1) := by decide +kernel
theorem dM_take_31 : decode bM_take 31 = .ok (.aload_n 0, 1) := by decide +kernel
theorem dM_take_32 : decode bM_take 32 = .ok (.getfield 100, 3) := by decide +kernel
theorem dM_take_35 : decode bM_take 35 = .ok (.bipush 8, 2) := by decide +kernel
theorem dM_take_37 : decode bM_take 37 = .ok (.if_icmp .lt 6, 3) := by decide +kernel
theorem dM_take_40 : decode bM_take 40 = .ok (.bipush (-2), 2) := by decide +kernel
theorem dM_take_42 : decode bM_take 42 = .ok (.ireturn, 1) := by decide +kernel
theorem dM_take_43 : decode bM_take 43 = .ok (.aload_n 0, 1) := by decide +kernel
theorem dM_take_44 : decode bM_take 44 = .ok (.getfield 15, 3) := by decide +kernel
theorem dM_take_47 : decode bM_take 47 = .ok (.aload_n 0, 1) := by decide +kernel
theorem dM_take_48 : decode bM_take 48 = .ok (.getfield 100, 3) := by decide +kernel
theorem dM_take_51 : decode bM_take 51 = .ok (.aaload, 1) := by decide +kernel
theorem dM_take_52 : decode bM_take 52 = .ok (.astore 4, 2) := by decide +kernel
theorem dM_take_54 : decode bM_take 54 = .ok (.iconst 0, 1) := by decide +kernel
theorem dM_take_55 : decode bM_take 55 = .ok (.istore 5, 2) := by decide +kernel
theorem dM_take_57 : decode bM_take 57 = .ok (.iload 5, 2) := by decide +kernel
theorem dM_take_59 : decode bM_take 59 = .ok (.bipush 13, 2) := by decide +kernel
theorem dM_take_61 : decode bM_take 61 = .ok (.if_icmp .ge 43, 3) := by decide +kernel
theorem dM_take_64 : decode bM_take 64 = .ok (.aload 4, 2) := by decide +kernel
theorem dM_take_66 : decode bM_take 66 = .ok (.iload 5, 2) := by decide +kernel
theorem dM_take_68 : decode bM_take 68 = .ok (.aload_n 0, 1) := by decide +kernel
theorem dM_take_69 : decode bM_take 69 = .ok (.getfield 9, 3) := by decide +kernel
theorem dM_take_72 : decode bM_take 72 = .ok (.iload 5, 2) := by decide +kernel
theorem dM_take_74 : decode bM_take 74 = .ok (.daload, 1) := by decide +kernel
theorem dM_take_75 : decode bM_take 75 = .ok (.dload_n 1, 1) := by decide +kernel
theorem dM_take_76 : decode bM_take 76 = .ok (.dmul, 1) := by decide +kernel
theorem dM_take_77 : decode bM_take 77 = .ok (.dastore, 1) := by decide +kernel
theorem dM_take_78 : decode bM_take 78 = .ok (.aload_n 0, 1) := by decide +kernel
theorem dM_take_79 : decode bM_take 79 = .ok (.getfield 9, 3) := by decide +kernel
theorem dM_take_82 : decode bM_take 82 = .ok (.iload 5, 2) := by decide +kernel
theorem dM_take_84 : decode bM_take 84 = .ok (.aload_n 0, 1) := by decide +kernel
theorem dM_take_85 : decode bM_take 85 = .ok (.getfield 9, 3) := by decide +kernel
theorem dM_take_88 : decode bM_take 88 = .ok (.iload 5, 2) := by decide +kernel
theorem dM_take_90 : decode bM_take 90 = .ok (.daload, 1) := by decide +kernel
theorem dM_take_91 : decode bM_take 91 = .ok (.aload 4, 2) := by decide +kernel
theorem dM_take_93 : decode bM_take 93 = .ok (.iload 5, 2) := by decide +kernel
theorem dM_take_95 : decode bM_take 95 = .ok (.daload, 1) := by decide +kernel
theorem dM_take_96 : decode bM_take 96 = .ok (.dsub, 1) := by decide +kernel
theorem dM_take_97 : decode bM_take 97 = .ok (.dastore, 1) := by decide +kernel
theorem dM_take_98 : decode bM_take 98 = .ok (.iinc 5 1, 3) := by decide +kernel
theorem dM_take_101 : decode bM_take 101 = .ok (.goto (-44), 3) := by decide +kernel
theorem dM_take_104 : decode bM_take 104 = .ok (.aload_n 0, 1) := by decide +kernel
theorem dM_take_105 : decode bM_take 105 = .ok (.aload_n 0, 1) := by decide +kernel
theorem dM_take_106 : decode bM_take 106 = .ok (.getfield 100, 3) := by decide +kernel
theorem dM_take_109 : decode bM_take 109 = .ok (.iconst 1, 1) := by decide +kernel
theorem dM_take_110 : decode bM_take 110 = .ok (.iadd, 1) := by decide +kernel
theorem dM_take_111 : decode bM_take 111 = .ok (.putfield 100, 3) := by decide +kernel
theorem dM_take_114 : decode bM_take 114 = .ok (.aload_n 0, 1) := by decide +kernel
theorem dM_take_115 : decode bM_take 115 = .ok (.getfield 100, 3) := by decide +kernel
theorem dM_take_118 : decode bM_take 118 = .ok (.iconst 1, 1) := by decide +kernel
theorem dM_take_119 : decode bM_take 119 = .ok (.isub, 1) := by decide +kernel
theorem dM_take_120 : decode bM_take 120 = .ok (.ireturn, 1) := by decide +kernel
theorem dM_back_0 : decode bM_back 0 = .ok (.iload_n 1, 1) := by decide +kernel
theorem dM_back_1 : decode bM_back 1 = .ok (.ifCond .lt 27, 3) := by decide +kernel
theorem dM_back_4 : decode bM_back 4 = .ok (.iload_n 1, 1) := by decide +kernel
theorem dM_back_5 : decode bM_back 5 = .ok (.aload_n 0, 1) := by decide +kernel
theorem dM_back_6 : decode bM_back 6 = .ok (.getfield 100, 3) := by decide +kernel
theorem dM_back_9 : decode bM_back 9 = .ok (.if_icmp .ge 19, 3) := by decide +kernel
theorem dM_back_12 : decode bM_back 12 = .ok (.aload_n 0, 1) := by decide +kernel
theorem dM_back_13 : decode bM_back 13 = .ok (.getfield 18, 3) := by decide +kernel
theorem dM_back_16 : decode bM_back 16 = .ok (.iload_n 1, 1) := by decide +kernel
theorem dM_back_17 : decode bM_back 17 = .ok (.baload, 1) := by decide +kernel
theorem dM_back_18 : decode bM_back 18 = .ok (.ifCond .ne 10, 3) := by decide +kernel
theorem dM_back_21 : decode bM_back 21 = .ok (.dload_n 2, 1) := by decide +kernel
theorem dM_back_22 : decode bM_back 22 = .ok (.invokestatic 62, 3) := by decide +kernel
theorem dM_back_25 : decode bM_back 25 = .ok (.ifCond .ne 5, 3) := by decide +kernel
theorem dM_back_28 : decode bM_back 28 = .ok (.iconst 0, 1) := by decide +kernel
theorem dM_back_29 : decode bM_back 29 = .ok (.ireturn, 1) := by decide +kernel
theorem dM_back_30 : decode bM_back 30 = .ok (.aload_n 0, 1) := by decide +kernel
theorem dM_back_31 : decode bM_back 31 = .ok (.getfield 15, 3) := by decide +kernel
theorem dM_back_34 : decode bM_back 34 = .ok (.iload_n 1, 1) := by decide +kernel
theorem dM_back_35 : decode bM_back 35 = .ok (.aaload, 1) := by decide +kernel
theorem dM_back_36 : decode bM_back 36 = .ok (.astore 4, 2) := by decide +kernel
theorem dM_back_38 : decode bM_back 38 = .ok (.aload_n 0, 1) := by decide +kernel
theorem dM_back_39 : decode bM_back 39 = .ok (.aload_n 0, 1) := by decide +kernel
theorem dM_back_40 : decode bM_back 40 = .ok (.getfield 68, 3) := by decide +kernel
theorem dM_back_43 : decode bM_back 43 = .ok (.aload_n 0, 1) := by decide +kernel
theorem dM_back_44 : decode bM_back 44 = .ok (.getfield 9, 3) := by decide +kernel
theorem dM_back_47 : decode bM_back 47 = .ok (.iconst 0, 1) := by decide +kernel
theorem dM_back_48 : decode bM_back 48 = .ok (.daload, 1) := by decide +kernel
theorem dM_back_49 : decode bM_back 49 = .ok (.dload_n 2, 1) := by decide +kernel
theorem dM_back_50 : decode bM_back 50 = .ok (.aload 4, 2) := by decide +kernel
theorem dM_back_52 : decode bM_back 52 = .ok (.iconst 0, 1) := by decide +kernel
theorem dM_back_53 : decode bM_back 53 = .ok (.daload, 1) := by decide +kernel
theorem dM_back_54 : decode bM_back 54 = .ok (.invokestatic 71, 3) := by decide +kernel
theorem dM_back_57 : decode bM_back 57 = .ok (.putfield 68, 3) := by decide +kernel
theorem dM_back_60 : decode bM_back 60 = .ok (.iconst 0, 1) := by decide +kernel
theorem dM_back_61 : decode bM_back 61 = .ok (.istore 5, 2) := by decide +kernel
theorem dM_back_63 : decode bM_back 63 = .ok (.iload 5, 2) := by decide +kernel
theorem dM_back_65 : decode bM_back 65 = .ok (.bipush 13, 2) := by decide +kernel
theorem dM_back_67 : decode bM_back 67 = .ok (.if_icmp .ge 29, 3) := by decide +kernel
theorem dM_back_70 : decode bM_back 70 = .ok (.aload_n 0, 1) := by decide +kernel
theorem dM_back_71 : decode bM_back 71 = .ok (.getfield 9, 3) := by decide +kernel
theorem dM_back_74 : decode bM_back 74 = .ok (.iload 5, 2) := by decide +kernel
theorem dM_back_76 : decode bM_back 76 = .ok (.aload_n 0, 1) := by decide +kernel
theorem dM_back_77 : decode bM_back 77 = .ok (.getfield 9, 3) := by decide +kernel
theorem dM_back_80 : decode bM_back 80 = .ok (.iload 5, 2) := by decide +kernel
theorem dM_back_82 : decode bM_back 82 = .ok (.daload, 1) := by decide +kernel
theorem dM_back_83 : decode bM_back 83 = .ok (.aload 4, 2) := by decide +kernel
theorem dM_back_85 : decode bM_back 85 = .ok (.iload 5, 2) := by decide +kernel
theorem dM_back_87 : decode bM_back 87 = .ok (.daload, 1) := by decide +kernel
theorem dM_back_88 : decode bM_back 88 = .ok (.dadd, 1) := by decide +kernel
theorem dM_back_89 : decode bM_back 89 = .ok (.dastore, 1) := by decide +kernel
theorem dM_back_90 : decode bM_back 90 = .ok (.iinc 5 1, 3) := by decide +kernel
theorem dM_back_93 : decode bM_back 93 = .ok (.goto (-30), 3) := by decide +kernel
theorem dM_back_96 : decode bM_back 96 = .ok (.aload_n 0, 1) := by decide +kernel
theorem dM_back_97 : decode bM_back 97 = .ok (.getfield 18, 3) := by decide +kernel
theorem dM_back_100 : decode bM_back 100 = .ok (.iload_n 1, 1) := by decide +kernel
theorem dM_back_101 : decode bM_back 101 = .ok (.iconst 1, 1) := by decide +kernel
theorem dM_back_102 : decode bM_back 102 = .ok (.bastore, 1) := by decide +kernel
theorem dM_back_103 : decode bM_back 103 = .ok (.iconst 1, 1) := by decide +kernel
theorem dM_back_104 : decode bM_back 104 = .ok (.ireturn, 1) := by decide +kernel
theorem dM_water_0 : decode bM_water 0 = .ok (.aload_n 0, 1) := by decide +kernel
