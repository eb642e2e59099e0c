theorem dX0_init_0 : decode cX0_init 0 = .ok (.aload_n 0, 1) := by decide +kernel
theorem dX0_init_1 : decode cX0_init 1 = .ok (.invokespecial 3, 3) := by decide +kernel
theorem dX0_init_4 : decode cX0_init 4 = .ok (.aload_n 0, 1) := by decide +kernel
theorem dX0_init_5 : decode cX0_init 5 = .ok (.bipush 16, 2) := by decide +kernel
theorem dX0_init_7 : decode cX0_init 7 = .ok (.newarray .int, 2) := by decide +kernel
theorem dX0_init_9 : decode cX0_init 9 = .ok (.putfield 9, 3) := by decide +kernel
theorem dX0_init_12 : decode cX0_init 12 = .ok (.aload_n 0, 1) := by decide +kernel
theorem dX0_init_13 : decode cX0_init 13 = .ok (.bipush 16, 2) := by decide +kernel
theorem dX0_init_15 : decode cX0_init 15 = .ok (.newarray .int, 2) := by decide +kernel
theorem dX0_init_17 : decode cX0_init 17 = .ok (.putfield 15, 3) := by decide +kernel
theorem dX0_init_20 : decode cX0_init 20 = .ok (.aload_n 0, 1) := by decide +kernel
theorem dX0_init_21 : decode cX0_init 21 = .ok (.bipush 16, 2) := by decide +kernel
theorem dX0_init_23 : decode cX0_init 23 = .ok (.newarray .int, 2) := by decide +kernel
theorem dX0_init_25 : decode cX0_init 25 = .ok (.putfield 18, 3) := by decide +kernel
theorem dX0_init_28 : decode cX0_init 28 = .ok (.aload_n 0, 1) := by decide +kernel
theorem dX0_init_29 : decode cX0_init 29 = .ok (.bipush 16, 2) := by decide +kernel
theorem dX0_init_31 : decode cX0_init 31 = .ok (.newarray .boolean, 2) := by decide +kernel
theorem dX0_init_33 : decode cX0_init 33 = .ok (.putfield 21, 3) := by decide +kernel
theorem dX0_init_36 : decode cX0_init 36 = .ok (.aload_n 0, 1) := by decide +kernel
theorem dX0_init_37 : decode cX0_init 37 = .ok (.bipush 16, 2) := by decide +kernel
theorem dX0_init_39 : decode cX0_init 39 = .ok (.newarray .int, 2) := by decide +kernel
theorem dX0_init_41 : decode cX0_init 41 = .ok (.putfield 25, 3) := by decide +kernel
theorem dX0_init_44 : decode cX0_init 44 = .ok (.aload_n 0, 1) := by decide +kernel
theorem dX0_init_45 : decode cX0_init 45 = .ok (.bipush 16, 2) := by decide +kernel
theorem dX0_init_47 : decode cX0_init 47 = .ok (.newarray .int, 2) := by decide +kernel
theorem dX0_init_49 : decode cX0_init 49 = .ok (.putfield 28, 3) := by decide +kernel
theorem dX0_init_52 : decode cX0_init 52 = .ok (.aload_n 0, 1) := by decide +kernel
theorem dX0_init_53 : decode cX0_init 53 = .ok (.bipush 16, 2) := by decide +kernel
theorem dX0_init_55 : decode cX0_init 55 = .ok (.newarray .boolean, 2) := by decide +kernel
theorem dX0_init_57 : decode cX0_init 57 = .ok (.putfield 31, 3) := by decide +kernel
theorem dX0_init_60 : decode cX0_init 60 = .ok (.aload_n 0, 1) := by decide +kernel
theorem dX0_init_61 : decode cX0_init 61 = .ok (.iconst 4, 1) := by decide +kernel
theorem dX0_init_62 : decode cX0_init 62 = .ok (.newarray .int, 2) := by decide +kernel
theorem dX0_init_64 : decode cX0_init 64 = .ok (.putfield 34, 3) := by decide +kernel
theorem dX0_init_67 : decode cX0_init 67 = .ok (.aload_n 0, 1) := by decide +kernel
theorem dX0_init_68 : decode cX0_init 68 = .ok (.iconst 4, 1) := by decide +kernel
theorem dX0_init_69 : decode cX0_init 69 = .ok (.newarray .int, 2) := by decide +kernel
theorem dX0_init_71 : decode cX0_init 71 = .ok (.putfield 37, 3) := by decide +kernel
theorem dX0_init_74 : decode cX0_init 74 = .ok (.aload_n 0, 1) := by decide +kernel
theorem dX0_init_75 : decode cX0_init 75 = .ok (.iconst 0, 1) := by decide +kernel
theorem dX0_init_76 : decode cX0_init 76 = .ok (.putfield 40, 3) := by decide +kernel
theorem dX0_init_79 : decode cX0_init 79 = .ok (.aload_n 0, 1) := by decide +kernel
theorem dX0_init_80 : decode cX0_init 80 = .ok (.iconst 0, 1) := by decide +kernel
theorem dX0_init_81 : decode cX0_init 81 = .ok (.putfield 44, 3) := by decide +kernel
theorem dX0_init_84 : decode cX0_init 84 = .ok (.aload_n 0, 1) := by decide +kernel
theorem dX0_init_85 : decode cX0_init 85 = .ok (.iconst 0, 1) := by decide +kernel
theorem dX0_init_86 : decode cX0_init 86 = .ok (.putfield 47, 3) := by decide +kernel
theorem dX0_init_89 : decode cX0_init 89 = .ok (.aload_n 0, 1) := by decide +kernel
theorem dX0_init_90 : decode cX0_init 90 = .ok (.iconst 0, 1) := by decide +kernel
theorem dX0_init_91 : decode cX0_init 91 = .ok (.putfield 50, 3) := by decide +kernel
theorem dX0_init_94 : decode cX0_init 94 = .ok (.aload_n 0, 1) := by decide +kernel
theorem dX0_init_95 : decode cX0_init 95 = .ok (.iconst 0, 1) := by decide +kernel
theorem dX0_init_96 : decode cX0_init 96 = .ok (.putfield 53, 3) := by decide +kernel
theorem dX0_init_99 : decode cX0_init 99 = .ok (.aload_n 0, 1) := by decide +kernel
theorem dX0_init_100 : decode cX0_init 100 = .ok (.aload_n 1, 1) := by decide +kernel
theorem dX0_init_101 : decode cX0_init 101 = .ok (.putfield 56, 3) := by decide +kernel
theorem dX0_init_104 : decode cX0_init 104 = .ok (.iconst 0, 1) := by decide +kernel
theorem dX0_init_105 : decode cX0_init 105 = .ok (.istore_n 2, 1) := by decide +kernel
theorem dX0_init_106 : decode cX0_init 106 = .ok (.iload_n 2, 1) := by decide +kernel
theorem dX0_init_107 : decode cX0_init 107 = .ok (.iconst 4, 1) := by decide +kernel
theorem dX0_init_108 : decode cX0_init 108 = .ok (.if_icmp .ge 24, 3) := by decide +kernel
theorem dX0_init_111 : decode cX0_init 111 = .ok (.aload_n 0, 1) := by decide +kernel
theorem dX0_init_112 : decode cX0_init 112 = .ok (.getfield 34, 3) := by decide +kernel
theorem dX0_init_115 : decode cX0_init 115 = .ok (.iload_n 2, 1) := by decide +kernel
theorem dX0_init_116 : decode cX0_init 116 = .ok (.bipush 30, 2) := by decide +kernel
theorem dX0_init_118 : decode cX0_init 118 = .ok (.iastore, 1) := by decide +kernel
theorem dX0_init_119 : decode cX0_init 119 = .ok (.aload_n 0, 1) := by decide +kernel
theorem dX0_init_120 : decode cX0_init 120 = .ok (.getfield 37, 3) := by decide +kernel
theorem dX0_init_123 : decode cX0_init 123 = .ok (.iload_n 2, 1) := by decide +kernel
theorem dX0_init_124 : decode cX0_init 124 = .ok (.iconst 3, 1) := by decide +kernel
theorem dX0_init_125 : decode cX0_init 125 = .ok (.iastore, 1) := by decide +kernel
theorem dX0_init_126 : decode cX0_init 126 = .ok (.iinc 2 1, 3) := by decide +kernel
theorem dX0_init_129 : decode cX0_init 129 = .ok (.goto (-23), 3) := by decide +kernel
theorem dX0_init_132 : decode cX0_init 132 = .ok (.return_, 1) := by decide +kernel
theorem dX0_takeOver_0 : decode cX0_takeOver 0 = .ok (.iconst 0, 1) := by decide +kernel
theorem dX0_takeOver_1 : decode cX0_takeOver 1 = .ok (.istore_n 2, 1) := by decide +kernel
theorem dX0_takeOver_2 : decode cX0_takeOver 2 = .ok (.iload_n 2, 1) := by decide +kernel
theorem dX0_takeOver_3 : decode cX0_takeOver 3 = .ok (.aload_n 1, 1) := by decide +kernel
theorem dX0_takeOver_4 : decode cX0_takeOver 4 = .ok (.getfield 40, 3) := by decide +kernel
theorem dX0_takeOver_7 : decode cX0_takeOver 7 = .ok (.if_icmp .ge 81, 3) := by decide +kernel
theorem dX0_takeOver_10 : decode cX0_takeOver 10 = .ok (.aload_n 0, 1) := by decide +kernel
theorem dX0_takeOver_11 : decode cX0_takeOver 11 = .ok (.getfield 9, 3) := by decide +kernel
theorem dX0_takeOver_14 : decode cX0_takeOver 14 = .ok (.iload_n 2, 1) := by decide +kernel
theorem dX0_takeOver_15 : decode cX0_takeOver 15 = .ok (.aload_n 1, 1) := by decide +kernel
theorem dX0_takeOver_16 : decode cX0_takeOver 16 = .ok (.getfield 9, 3) := by decide +kernel
theorem dX0_takeOver_19 : decode cX0_takeOver 19 = .ok (.iload_n 2, 1) := by decide +kernel
theorem dX0_takeOver_20 : decode cX0_takeOver 20 = .ok (.iaload, 1) := by decide +kernel
theorem dX0_takeOver_21 : decode cX0_takeOver 21 = .ok (.iastore, 1) := by decide +kernel
theorem dX0_takeOver_22 : decode cX0_takeOver 22 = .ok (.aload_n 0, 1) := by decide +kernel
theorem dX0_takeOver_23 : decode cX0_takeOver 23 = .ok (.getfield 15, 3) := by decide +kernel
theorem dX0_takeOver_26 : decode cX0_takeOver 26 = .ok (.iload_n 2, 1) := by decide +kernel
theorem dX0_takeOver_27 : decode cX0_takeOver 27 = .ok (.aload_n 1, 1) := by decide +kernel
theorem dX0_takeOver_28 : decode cX0_takeOver 28 = .ok (.getfield 15, 3) := by decide +kernel
theorem dX0_takeOver_31 : decode cX0_takeOver 31 = .ok (.iload_n 2, 1) := by decide +kernel
theorem dX0_takeOver_32 : decode cX0_takeOver 32 = .ok (.iaload, 1) := by decide +kernel
theorem dX0_takeOver_33 : decode cX0_takeOver 33 = .ok (.iastore, 1) := by decide +kernel
theorem dX0_takeOver_34 : decode cX0_takeOver 34 = .ok (.aload_n 0, 1) := by decide +kernel
theorem dX0_takeOver_35 : decode cX0_takeOver 35 = .ok (.getfield 18, 3) := by decide +kernel
theorem dX0_takeOver_38 : decode cX0_takeOver 38 = .ok (.iload_n 2, 1) := by decide +kernel
theorem dX0_takeOver_39 : decode cX0_takeOver 39 = .ok (.aload_n 1, 1) := by decide +kernel
theorem dX0_takeOver_40 : decode cX0_takeOver 40 = .ok (.getfield 18, 3) := by decide +kernel
theorem dX0_takeOver_43 : decode cX0_takeOver 43 = .ok (.iload_n 2, 1) := by decide +kernel
theorem dX0_takeOver_44 : decode cX0_takeOver 44 = .ok (.iaload, 1) := by decide +kernel
theorem dX0_takeOver_45 : decode cX0_takeOver 45 = .ok (.iastore, 1) := by decide +kernel
theorem dX0_takeOver_46 : decode cX0_takeOver 46 = .ok (.aload_n 0, 1) := by decide +kernel
theorem dX0_takeOver_47 : decode cX0_takeOver 47 = .ok (.getfield 21, 3) := by decide +kernel
theorem dX0_takeOver_50 : decode cX0_takeOver 50 = .ok (.iload_n 2, 1) := by decide +kernel
theorem dX0_takeOver_51 : decode cX0_takeOver 51 = .ok (.aload_n 1, 1) := by decide +kernel
theorem dX0_takeOver_52 : decode cX0_takeOver 52 = .ok (.getfield 21, 3) := by decide +kernel
theorem dX0_takeOver_55 : decode cX0_takeOver 55 = .ok (.iload_n 2, 1) := by decide +kernel
theorem dX0_takeOver_56 : decode cX0_takeOver 56 = .ok (.baload, 1) := by decide +kernel
theorem dX0_takeOver_57 : decode cX0_takeOver 57 = .ok (.bastore, 1) := by decide +kernel
theorem dX0_takeOver_58 : decode cX0_takeOver 58 = .ok (.aload_n 0, 1) := by decide +kernel
theorem dX0_takeOver_59 : decode cX0_takeOver 59 = .ok (.getfield 25, 3) := by decide +kernel
theorem dX0_takeOver_62 : decode cX0_takeOver 62 = .ok (.iload_n 2, 1) := by decide +kernel
theorem dX0_takeOver_63 : decode cX0_takeOver 63 = .ok (.aload_n 1, 1) := by decide +kernel
theorem dX0_takeOver_64 : decode cX0_takeOver 64 = .ok (.getfield 25, 3) := by decide +kernel
theorem dX0_takeOver_67 : decode cX0_takeOver 67 = .ok (.iload_n 2, 1) := by decide +kernel
theorem dX0_takeOver_68 : decode cX0_takeOver 68 = .ok (.iaload, 1) := by decide +kernel
theorem dX0_takeOver_69 : decode cX0_takeOver 69 = .ok (.iastore, 1) := by decide +kernel
theorem dX0_takeOver_70 : decode cX0_takeOver 70 = .ok (.aload_n 0, 1) := by decide +kernel
theorem dX0_takeOver_71 : decode cX0_takeOver 71 = .ok (.getfield 28, 3) := by decide +kernel
theorem dX0_takeOver_74 : decode cX0_takeOver 74 = .ok (.iload_n 2, 1) := by decide +kernel
theorem dX0_takeOver_75 : decode cX0_takeOver 75 = .ok (.aload_n 1, 1) := by decide +kernel
theorem dX0_takeOver_76 : decode cX0_takeOver 76 = .ok (.getfield 28, 3) := by decide +kernel
theorem dX0_takeOver_79 : decode cX0_takeOver 79 = .ok (.iload_n 2, 1) := by decide +kernel
theorem dX0_takeOver_80 : decode cX0_takeOver 80 = .ok (.iaload, 1) := by decide +kernel
theorem dX0_takeOver_81 : decode cX0_takeOver 81 = .ok (.iastore, 1) := by decide +kernel
theorem dX0_takeOver_82 : decode cX0_takeOver 82 = .ok (.iinc 2 1, 3) := by decide +kernel
theorem dX0_takeOver_85 : decode cX0_takeOver 85 = .ok (.goto (-83), 3) := by decide +kernel
theorem dX0_takeOver_88 : decode cX0_takeOver 88 = .ok (.iconst 0, 1) := by decide +kernel
theorem dX0_takeOver_89 : decode cX0_takeOver 89 = .ok (.istore_n 2, 1) := by decide +kernel
theorem dX0_takeOver_90 : decode cX0_takeOver 90 = .ok (.iload_n 2, 1) := by decide +kernel
theorem dX0_takeOver_91 : decode cX0_takeOver 91 = .ok (.iconst 4, 1) := by decide +kernel
theorem dX0_takeOver_92 : decode cX0_takeOver 92 = .ok (.if_icmp .ge 33, 3) := by decide +kernel
theorem dX0_takeOver_95 : decode cX0_takeOver 95 = .ok (.aload_n 0, 1) := by decide +kernel
theorem dX0_takeOver_96 : decode cX0_takeOver 96 = .ok (.getfield 34, 3) := by decide +kernel
theorem dX0_takeOver_99 : decode cX0_takeOver 99 = .ok (.iload_n 2, 1) := by decide +kernel
theorem dX0_takeOver_100 : decode cX0_takeOver 100 = .ok (.aload_n 1, 1) := by decide +kernel
theorem dX0_takeOver_101 : decode cX0_takeOver 101 = .ok (.getfield 34, 3) := by decide +kernel
theorem dX0_takeOver_104 : decode cX0_takeOver 104 = .ok (.iload_n 2, 1) := by decide +kernel
theorem dX0_takeOver_105 : decode cX0_takeOver 105 = .ok (.iaload, 1) := by decide +kernel
theorem dX0_takeOver_106 : decode cX0_takeOver 106 = .ok (.iastore, 1) := by decide +kernel
theorem dX0_takeOver_107 : decode cX0_takeOver 107 = .ok (.aload_n 0, 1) := by decide +kernel
theorem dX0_takeOver_108 : decode cX0_takeOver 108 = .ok (.getfield 37, 3) := by decide +kernel
theorem dX0_takeOver_111 : decode cX0_takeOver 111 = .ok (.iload_n 2, 1) := by decide +kernel
theorem dX0_takeOver_112 : decode cX0_takeOver 112 = .ok (.aload_n 1, 1) := by decide +kernel
theorem dX0_takeOver_113 : decode cX0_takeOver 113 = .ok (.getfield 37, 3) := by decide +kernel
theorem dX0_takeOver_116 : decode cX0_takeOver 116 = .ok (.iload_n 2, 1) := by decide +kernel
theorem dX0_takeOver_117 : decode cX0_takeOver 117 = .ok (.iaload, 1) := by decide +kernel
theorem dX0_takeOver_118 : decode cX0_takeOver 118 = .ok (.iastore, 1) := by decide +kernel
theorem dX0_takeOver_119 : decode cX0_takeOver 119 = .ok (.iinc 2 1, 3) := by decide +kernel
theorem dX0_takeOver_122 : decode cX0_takeOver 122 = .ok (.goto (-32), 3) := by decide +kernel
theorem dX0_takeOver_125 : decode cX0_takeOver 125 = .ok (.aload_n 0, 1) := by decide +kernel
theorem dX0_takeOver_126 : decode cX0_takeOver 126 = .ok (.aload_n 1, 1) := by decide +kernel
theorem dX0_takeOver_127 : decode cX0_takeOver 127 = .ok (.getfield 40, 3) := by decide +kernel
theorem dX0_takeOver_130 : decode cX0_takeOver 130 = .ok (.putfield 40, 3) := by decide +kernel
theorem dX0_takeOver_133 : decode cX0_takeOver 133 = .ok (.aload_n 0, 1) := by decide +kernel
theorem dX0_takeOver_134 : decode cX0_takeOver 134 = .ok (.aload_n 1, 1) := by decide +kernel
theorem dX0_takeOver_135 : decode cX0_takeOver 135 = .ok (.getfield 44, 3) := by decide +kernel
theorem dX0_takeOver_138 : decode cX0_takeOver 138 = .ok (.putfield 44, 3) := by decide +kernel
theorem dX0_takeOver_141 : decode cX0_takeOver 141 = .ok (.aload_n 0, 1) := by decide +kernel
theorem dX0_takeOver_142 : decode cX0_takeOver 142 = .ok (.aload_n 1, 1) := by decide +kernel
theorem dX0_takeOver_143 : decode cX0_takeOver 143 = .ok (.getfield 47, 3) := by decide +kernel
theorem dX0_takeOver_146 : decode cX0_takeOver 146 = .ok (.putfield 47, 3) := by decide +kernel
theorem dX0_takeOver_149 : decode cX0_takeOver 149 = .ok (.aload_n 0, 1) := by decide +kernel
theorem dX0_takeOver_150 : decode cX0_takeOver 150 = .ok (.aload_n 1, 1) := by decide +kernel
theorem dX0_takeOver_151 : decode cX0_takeOver 151 = .ok (.getfield 50, 3) := by decide +kernel
theorem dX0_takeOver_154 : decode cX0_takeOver 154 = .ok (.putfield 50, 3) := by decide +kernel
theorem dX0_takeOver_157 : decode cX0_takeOver 157 = .ok (.aload_n 0, 1) := by decide +kernel
theorem dX0_takeOver_158 : decode cX0_takeOver 158 = .ok (.aload_n 1, 1) := by decide +kernel
theorem dX0_takeOver_159 : decode cX0_takeOver 159 = .ok (.getfield 53, 3) := by decide +kernel
theorem dX0_takeOver_162 : decode cX0_takeOver 162 = .ok (.putfield 53, 3) := by decide +kernel
theorem dX0_takeOver_165 : decode cX0_takeOver 165 = .ok (.return_, 1) := by decide +kernel
theorem dX0_hasGlass_0 : decode cX0_hasGlass 0 = .ok (.iload_n 1, 1) := by decide +kernel
theorem dX0_hasGlass_1 : decode cX0_hasGlass 1 = .ok (.ifCond .lt 15, 3) := by decide +kernel
theorem dX0_hasGlass_4 : decode cX0_hasGlass 4 = .ok (.iload_n 1, 1) := by decide +kernel
theorem dX0_hasGlass_5 : decode cX0_hasGlass 5 = .ok (.aload_n 0, 1) := by decide +kernel
theorem dX0_hasGlass_6 : decode cX0_hasGlass 6 = .ok (.getfield 40, 3) := by decide +kernel
theorem dX0_hasGlass_9 : decode cX0_hasGlass 9 = .ok (.if_icmp .ge 7, 3) := by decide +kernel
theorem dX0_hasGlass_12 : decode cX0_hasGlass 12 = .ok (.iconst 1, 1) := by decide +kernel
theorem dX0_hasGlass_13 : decode cX0_hasGlass 13 = .ok (.goto 4, 3) := by decide +kernel
theorem dX0_hasGlass_16 : decode cX0_hasGlass 16 = .ok (.iconst 0, 1) := by decide +kernel
theorem dX0_hasGlass_17 : decode cX0_hasGlass 17 = .ok (.ireturn, 1) := by decide +kernel
theorem dX0_addGlass_0 : decode cX0_addGlass 0 = .ok (.aload_n 0, 1) := by decide +kernel
theorem dX0_addGlass_1 : decode cX0_addGlass 1 = .ok (.getfield 40, 3) := by decide +kernel
theorem dX0_addGlass_4 : decode cX0_addGlass 4 = .ok (.bipush 16, 2) := by decide +kernel
theorem dX0_addGlass_6 : decode cX0_addGlass 6 = .ok (.if_icmp .lt 5, 3) := by decide +kernel
theorem dX0_addGlass_9 : decode cX0_addGlass 9 = .ok (.iconst (-1), 1) := by decide +kernel
theorem dX0_addGlass_10 : decode cX0_addGlass 10 = .ok (.ireturn, 1) := by decide +kernel
theorem dX0_addGlass_11 : decode cX0_addGlass 11 = .ok (.aload_n 0, 1) := by decide +kernel
theorem dX0_addGlass_12 : decode cX0_addGlass 12 = .ok (.getfield 40, 3) := by decide +kernel
theorem dX0_addGlass_15 : decode cX0_addGlass 15 = .ok (.istore 4, 2) := by decide +kernel
theorem dX0_addGlass_17 : decode cX0_addGlass 17 = .ok (.aload_n 0, 1) := by decide +kernel
theorem dX0_addGlass_18 : decode cX0_addGlass 18 = .ok (.getfield 9, 3) := by decide +kernel
theorem dX0_addGlass_21 : decode cX0_addGlass 21 = .ok (.iload 4, 2) := by decide +kernel
theorem dX0_addGlass_23 : decode cX0_addGlass 23 = .ok (.iload_n 1, 1) := by decide +kernel
theorem dX0_addGlass_24 : decode cX0_addGlass 24 = .ok (.iastore, 1) := by decide +kernel
theorem dX0_addGlass_25 : decode cX0_addGlass 25 = .ok (.aload_n 0, 1) := by decide +kernel
theorem dX0_addGlass_26 : decode cX0_addGlass 26 = .ok (.getfield 15, 3) := by decide +kernel
theorem dX0_addGlass_29 : decode cX0_addGlass 29 = .ok (.iload 4, 2) := by decide +kernel
theorem dX0_addGlass_31 : decode cX0_addGlass 31 = .ok (.iload_n 2, 1) := by decide +kernel
theorem dX0_addGlass_32 : decode cX0_addGlass 32 = .ok (.iastore, 1) := by decide +kernel
theorem dX0_addGlass_33 : decode cX0_addGlass 33 = .ok (.aload_n 0, 1) := by decide +kernel
theorem dX0_addGlass_34 : decode cX0_addGlass 34 = .ok (.getfield 18, 3) := by decide +kernel
theorem dX0_addGlass_37 : decode cX0_addGlass 37 = .ok (.iload 4, 2) := by decide +kernel
theorem dX0_addGlass_39 : decode cX0_addGlass 39 = .ok (.iload_n 3, 1) := by decide +kernel
theorem dX0_addGlass_40 : decode cX0_addGlass 40 = .ok (.iastore, 1) := by decide +kernel
theorem dX0_addGlass_41 : decode cX0_addGlass 41 = .ok (.aload_n 0, 1) := by decide +kernel
theorem dX0_addGlass_42 : decode cX0_addGlass 42 = .ok (.dup, 1) := by decide +kernel
theorem dX0_addGlass_43 : decode cX0_addGlass 43 = .ok (.getfield 40, 3) := by decide +kernel
theorem dX0_addGlass_46 : decode cX0_addGlass 46 = .ok (.iconst 1, 1) := by decide +kernel
theorem dX0_addGlass_47 : decode cX0_addGlass 47 = .ok (.iadd, 1) := by decide +kernel
theorem dX0_addGlass_48 : decode cX0_addGlass 48 = .ok (.putfield 40, 3) := by decide +kernel
theorem dX0_addGlass_51 : decode cX0_addGlass 51 = .ok (.iload 4, 2) := by decide +kernel
theorem dX0_addGlass_53 : decode cX0_addGlass 53 = .ok (.ireturn, 1) := by decide +kernel
set_option maxRecDepth 20000 in
theorem ggX0_setPump_X2_isWithin : GoodIn wsX0_setPump wsX2_isWithin := goodIn_r _ [4] (by decide +kernel) (by decide +kernel)
set_option maxRecDepth 20000 in
theorem gX0_setPump_X2_isWithin_n60 : GoodIn wsX0_setPump (wsX2_isWithin) := ggX0_setPump_X2_isWithin
theorem dX0_setPump_0 : decode cX0_setPump 0 = .ok (.iload_n 1, 1) := by decide +kernel
theorem dX0_setPump_1 : decode cX0_setPump 1 = .ok (.iconst 0, 1) := by decide +kernel
theorem dX0_setPump_2 : decode cX0_setPump 2 = .ok (.iconst 3, 1) := by decide +kernel
theorem dX0_setPump_3 : decode cX0_setPump 3 = .ok (.invokestatic 60, 3) := by decide +kernel
theorem dX0_setPump_6 : decode cX0_setPump 6 = .ok (.ifCond .eq 10, 3) := by decide +kernel
theorem dX0_setPump_9 : decode cX0_setPump 9 = .ok (.aload_n 0, 1) := by decide +kernel
theorem dX0_setPump_10 : decode cX0_setPump 10 = .ok (.getfield 37, 3) := by decide +kernel
theorem dX0_setPump_13 : decode cX0_setPump 13 = .ok (.iload_n 1, 1) := by decide +kernel
theorem dX0_setPump_14 : decode cX0_setPump 14 = .ok (.iload_n 2, 1) := by decide +kernel
theorem dX0_setPump_15 : decode cX0_setPump 15 = .ok (.iastore, 1) := by decide +kernel
theorem dX0_setPump_16 : decode cX0_setPump 16 = .ok (.return_, 1) := by decide +kernel
set_option maxRecDepth 20000 in
theorem ggX0_mostDrops_X0_hasGlass : GoodIn wsX0_mostDrops wsX0_hasGlass := goodIn_r _ [6, 7, 8, 9, 10, 11, 12, 13, 14, 15, 16, 17, 18, 19, 20, 21, 22] (by decide +kernel) (by decide +kernel)
set_option maxRecDepth 20000 in
theorem gX0_mostDrops_X0_hasGlass : GoodIn wsX0_mostDrops (wsV RX0 64 RX0 yX0_hasGlass wsX0_hasGlass) := goodIn_app (goodIn_of _ (by decide +kernel)) ggX0_mostDrops_X0_hasGlass
theorem dX0_mostDrops_0 : decode cX0_mostDrops 0 = .ok (.aload_n 0, 1) := by decide +kernel
theorem dX0_mostDrops_1 : decode cX0_mostDrops 1 = .ok (.iload_n 1, 1) := by decide +kernel
theorem dX0_mostDrops_2 : decode cX0_mostDrops 2 = .ok (.invokevirtual 64, 3) := by decide +kernel
theorem dX0_mostDrops_5 : decode cX0_mostDrops 5 = .ok (.ifCond .eq 15, 3) := by decide +kernel
theorem dX0_mostDrops_8 : decode cX0_mostDrops 8 = .ok (.bipush 100, 2) := by decide +kernel
theorem dX0_mostDrops_10 : decode cX0_mostDrops 10 = .ok (.aload_n 0, 1) := by decide +kernel
theorem dX0_mostDrops_11 : decode cX0_mostDrops 11 = .ok (.getfield 15, 3) := by decide +kernel
theorem dX0_mostDrops_14 : decode cX0_mostDrops 14 = .ok (.iload_n 1, 1) := by decide +kernel
theorem dX0_mostDrops_15 : decode cX0_mostDrops 15 = .ok (.iaload, 1) := by decide +kernel
theorem dX0_mostDrops_16 : decode cX0_mostDrops 16 = .ok (.imul, 1) := by decide +kernel
theorem dX0_mostDrops_17 : decode cX0_mostDrops 17 = .ok (.goto 4, 3) := by decide +kernel
theorem dX0_mostDrops_20 : decode cX0_mostDrops 20 = .ok (.iconst 0, 1) := by decide +kernel
theorem dX0_mostDrops_21 : decode cX0_mostDrops 21 = .ok (.ireturn, 1) := by decide +kernel
theorem dX0_emptyTone_0 : decode cX0_emptyTone 0 = .ok (.bipush 120, 2) := by decide +kernel
theorem dX0_emptyTone_2 : decode cX0_emptyTone 2 = .ok (.bipush 8, 2) := by decide +kernel
theorem dX0_emptyTone_4 : decode cX0_emptyTone 4 = .ok (.iload_n 0, 1) := by decide +kernel
theorem dX0_emptyTone_5 : decode cX0_emptyTone 5 = .ok (.imul, 1) := by decide +kernel
theorem dX0_emptyTone_6 : decode cX0_emptyTone 6 = .ok (.isub, 1) := by decide +kernel
theorem dX0_emptyTone_7 : decode cX0_emptyTone 7 = .ok (.ireturn, 1) := by decide +kernel
theorem dX0_dropsPerTone_0 : decode cX0_dropsPerTone 0 = .ok (.iconst 4, 1) := by decide +kernel
theorem dX0_dropsPerTone_1 : decode cX0_dropsPerTone 1 = .ok (.iload_n 0, 1) := by decide +kernel
theorem dX0_dropsPerTone_2 : decode cX0_dropsPerTone 2 = .ok (.imul, 1) := by decide +kernel
theorem dX0_dropsPerTone_3 : decode cX0_dropsPerTone 3 = .ok (.ireturn, 1) := by decide +kernel
set_option maxRecDepth 20000 in
theorem ggX0_toneOf_X0_hasGlass : GoodIn wsX0_toneOf wsX0_hasGlass := goodIn_r _ [11, 12, 19, 20, 21, 22, 23, 24, 25, 26, 27, 28, 29, 30, 31, 32, 33] (by decide +kernel) (by decide +kernel)
set_option maxRecDepth 20000 in
theorem gX0_toneOf_X0_hasGlass : GoodIn wsX0_toneOf (wsV RX0 64 RX0 yX0_hasGlass wsX0_hasGlass) := goodIn_app (goodIn_of _ (by decide +kernel)) ggX0_toneOf_X0_hasGlass
set_option maxRecDepth 20000 in
theorem ggX0_toneOf_X0_dropsPerTone : GoodIn wsX0_toneOf wsX0_dropsPerTone := goodIn_r _ [15] (by decide +kernel) (by decide +kernel)
set_option maxRecDepth 20000 in
theorem gX0_toneOf_X0_dropsPerTone : GoodIn wsX0_toneOf (va_wsS RX0 68 yX0_dropsPerTone wsX0_dropsPerTone) := goodIn_app (goodIn_of _ (by decide +kernel)) ggX0_toneOf_X0_dropsPerTone
set_option maxRecDepth 20000 in
theorem ggX0_toneOf_X0_emptyTone : GoodIn wsX0_toneOf wsX0_emptyTone := goodIn_r _ [18] (by decide +kernel) (by decide +kernel)
set_option maxRecDepth 20000 in
theorem gX0_toneOf_X0_emptyTone : GoodIn wsX0_toneOf (va_wsS RX0 72 yX0_emptyTone wsX0_emptyTone) := goodIn_app (goodIn_of _ (by decide +kernel)) ggX0_toneOf_X0_emptyTone
theorem dX0_toneOf_0 : decode cX0_toneOf 0 = .ok (.aload_n 0, 1) := by decide +kernel
theorem dX0_toneOf_1 : decode cX0_toneOf 1 = .ok (.iload_n 1, 1) := by decide +kernel
theorem dX0_toneOf_2 : decode cX0_toneOf 2 = .ok (.invokevirtual 64, 3) := by decide +kernel
theorem dX0_toneOf_5 : decode cX0_toneOf 5 = .ok (.ifCond .ne 5, 3) := by decide +kernel
theorem dX0_toneOf_8 : decode cX0_toneOf 8 = .ok (.iconst 0, 1) := by decide +kernel
theorem dX0_toneOf_9 : decode cX0_toneOf 9 = .ok (.ireturn, 1) := by decide +kernel
theorem dX0_toneOf_10 : decode cX0_toneOf 10 = .ok (.aload_n 0, 1) := by decide +kernel
theorem dX0_toneOf_11 : decode cX0_toneOf 11 = .ok (.getfield 15, 3) := by decide +kernel
theorem dX0_toneOf_14 : decode cX0_toneOf 14 = .ok (.iload_n 1, 1) := by decide +kernel
theorem dX0_toneOf_15 : decode cX0_toneOf 15 = .ok (.iaload, 1) := by decide +kernel
theorem dX0_toneOf_16 : decode cX0_toneOf 16 = .ok (.invokestatic 68, 3) := by decide +kernel
theorem dX0_toneOf_19 : decode cX0_toneOf 19 = .ok (.istore_n 2, 1) := by decide +kernel
theorem dX0_toneOf_20 : decode cX0_toneOf 20 = .ok (.iload_n 2, 1) := by decide +kernel
theorem dX0_toneOf_21 : decode cX0_toneOf 21 = .ok (.ifCond .le 14, 3) := by decide +kernel
theorem dX0_toneOf_24 : decode cX0_toneOf 24 = .ok (.aload_n 0, 1) := by decide +kernel
theorem dX0_toneOf_25 : decode cX0_toneOf 25 = .ok (.getfield 18, 3) := by decide +kernel
theorem dX0_toneOf_28 : decode cX0_toneOf 28 = .ok (.iload_n 1, 1) := by decide +kernel
theorem dX0_toneOf_29 : decode cX0_toneOf 29 = .ok (.iaload, 1) := by decide +kernel
theorem dX0_toneOf_30 : decode cX0_toneOf 30 = .ok (.iload_n 2, 1) := by decide +kernel
theorem dX0_toneOf_31 : decode cX0_toneOf 31 = .ok (.idiv, 1) := by decide +kernel
theorem dX0_toneOf_32 : decode cX0_toneOf 32 = .ok (.goto 4, 3) := by decide +kernel
theorem dX0_toneOf_35 : decode cX0_toneOf 35 = .ok (.iconst 0, 1) := by decide +kernel
theorem dX0_toneOf_36 : decode cX0_toneOf 36 = .ok (.istore_n 3, 1) := by decide +kernel
theorem dX0_toneOf_37 : decode cX0_toneOf 37 = .ok (.iconst 0, 1) := by decide +kernel
theorem dX0_toneOf_38 : decode cX0_toneOf 38 = .ok (.aload_n 0, 1) := by decide +kernel
theorem dX0_toneOf_39 : decode cX0_toneOf 39 = .ok (.getfield 15, 3) := by decide +kernel
theorem dX0_toneOf_42 : decode cX0_toneOf 42 = .ok (.iload_n 1, 1) := by decide +kernel
theorem dX0_toneOf_43 : decode cX0_toneOf 43 = .ok (.iaload, 1) := by decide +kernel
theorem dX0_toneOf_44 : decode cX0_toneOf 44 = .ok (.invokestatic 72, 3) := by decide +kernel
theorem dX0_toneOf_47 : decode cX0_toneOf 47 = .ok (.iload_n 3, 1) := by decide +kernel
theorem dX0_toneOf_48 : decode cX0_toneOf 48 = .ok (.isub, 1) := by decide +kernel
theorem dX0_toneOf_49 : decode cX0_toneOf 49 = .ok (.invokestatic 75, 3) := by decide +kernel
theorem dX0_toneOf_52 : decode cX0_toneOf 52 = .ok (.ireturn, 1) := by decide +kernel
set_option maxRecDepth 20000 in
theorem ggX0_fewestDropsFor_X0_hasGlass : GoodIn wsX0_fewestDropsFor wsX0_hasGlass := goodIn_r _ [6, 7, 21, 22, 23, 24, 25, 26, 27, 28, 29, 30, 31, 32, 33, 34, 35] (by decide +kernel) (by decide +kernel)
set_option maxRecDepth 20000 in
theorem gX0_fewestDropsFor_X0_hasGlass : GoodIn wsX0_fewestDropsFor (wsV RX0 64 RX0 yX0_hasGlass wsX0_hasGlass) := goodIn_app (goodIn_of _ (by decide +kernel)) ggX0_fewestDropsFor_X0_hasGlass
set_option maxRecDepth 20000 in
theorem ggX0_fewestDropsFor_X0_dropsPerTone : GoodIn wsX0_fewestDropsFor wsX0_dropsPerTone := goodIn_r _ [10] (by decide +kernel) (by decide +kernel)
set_option maxRecDepth 20000 in
theorem gX0_fewestDropsFor_X0_dropsPerTone : GoodIn wsX0_fewestDropsFor (va_wsS RX0 68 yX0_dropsPerTone wsX0_dropsPerTone) := goodIn_app (goodIn_of _ (by decide +kernel)) ggX0_fewestDropsFor_X0_dropsPerTone
set_option maxRecDepth 20000 in
theorem ggX0_fewestDropsFor_X0_emptyTone : GoodIn wsX0_fewestDropsFor wsX0_emptyTone := goodIn_r _ [13] (by decide +kernel) (by decide +kernel)
set_option maxRecDepth 20000 in
theorem gX0_fewestDropsFor_X0_emptyTone : GoodIn wsX0_fewestDropsFor (va_wsS RX0 72 yX0_emptyTone wsX0_emptyTone) := goodIn_app (goodIn_of _ (by decide +kernel)) ggX0_fewestDropsFor_X0_emptyTone
set_option maxRecDepth 20000 in
theorem ggX0_fewestDropsFor_X0_mostDrops : GoodIn wsX0_fewestDropsFor wsX0_mostDrops := goodIn_r _ [17, 1, 2, 3, 4, 5, 6, 7, 21, 22, 23, 24, 25, 26, 27, 28, 29, 30, 31, 32, 33, 34, 35] (by decide +kernel) (by decide +kernel)
set_option maxRecDepth 20000 in
theorem gX0_fewestDropsFor_X0_mostDrops : GoodIn wsX0_fewestDropsFor (wsV RX0 81 RX0 yX0_mostDrops wsX0_mostDrops) := goodIn_app (goodIn_of _ (by decide +kernel)) ggX0_fewestDropsFor_X0_mostDrops
set_option maxRecDepth 20000 in
theorem ggX0_fewestDropsFor_X2_isWithin : GoodIn wsX0_fewestDropsFor wsX2_isWithin := goodIn_r _ [20] (by decide +kernel) (by decide +kernel)
set_option maxRecDepth 20000 in
theorem gX0_fewestDropsFor_X2_isWithin_n60 : GoodIn wsX0_fewestDropsFor (wsX2_isWithin) := ggX0_fewestDropsFor_X2_isWithin
theorem dX0_fewestDropsFor_0 : decode cX0_fewestDropsFor 0 = .ok (.aload_n 0, 1) := by decide +kernel
theorem dX0_fewestDropsFor_1 : decode cX0_fewestDropsFor 1 = .ok (.iload_n 1, 1) := by decide +kernel
theorem dX0_fewestDropsFor_2 : decode cX0_fewestDropsFor 2 = .ok (.invokevirtual 64, 3) := by decide +kernel
theorem dX0_fewestDropsFor_5 : decode cX0_fewestDropsFor 5 = .ok (.ifCond .ne 5, 3) := by decide +kernel
theorem dX0_fewestDropsFor_8 : decode cX0_fewestDropsFor 8 = .ok (.iconst (-1), 1) := by decide +kernel
theorem dX0_fewestDropsFor_9 : decode cX0_fewestDropsFor 9 = .ok (.ireturn, 1) := by decide +kernel
theorem dX0_fewestDropsFor_10 : decode cX0_fewestDropsFor 10 = .ok (.aload_n 0, 1) := by decide +kernel
theorem dX0_fewestDropsFor_11 : decode cX0_fewestDropsFor 11 = .ok (.getfield 15, 3) := by decide +kernel
theorem dX0_fewestDropsFor_14 : decode cX0_fewestDropsFor 14 = .ok (.iload_n 1, 1) := by decide +kernel
theorem dX0_fewestDropsFor_15 : decode cX0_fewestDropsFor 15 = .ok (.iaload, 1) := by decide +kernel
theorem dX0_fewestDropsFor_16 : decode cX0_fewestDropsFor 16 = .ok (.istore_n 3, 1) := by decide +kernel
theorem dX0_fewestDropsFor_17 : decode cX0_fewestDropsFor 17 = .ok (.iload_n 3, 1) := by decide +kernel
theorem dX0_fewestDropsFor_18 : decode cX0_fewestDropsFor 18 = .ok (.invokestatic 68, 3) := by decide +kernel
theorem dX0_fewestDropsFor_21 : decode cX0_fewestDropsFor 21 = .ok (.iload_n 3, 1) := by decide +kernel
theorem dX0_fewestDropsFor_22 : decode cX0_fewestDropsFor 22 = .ok (.invokestatic 72, 3) := by decide +kernel
theorem dX0_fewestDropsFor_25 : decode cX0_fewestDropsFor 25 = .ok (.iload_n 2, 1) := by decide +kernel
theorem dX0_fewestDropsFor_26 : decode cX0_fewestDropsFor 26 = .ok (.isub, 1) := by decide +kernel
theorem dX0_fewestDropsFor_27 : decode cX0_fewestDropsFor 27 = .ok (.imul, 1) := by decide +kernel
theorem dX0_fewestDropsFor_28 : decode cX0_fewestDropsFor 28 = .ok (.istore 4, 2) := by decide +kernel
theorem dX0_fewestDropsFor_30 : decode cX0_fewestDropsFor 30 = .ok (.iload 4, 2) := by decide +kernel
theorem dX0_fewestDropsFor_32 : decode cX0_fewestDropsFor 32 = .ok (.iconst 0, 1) := by decide +kernel
theorem dX0_fewestDropsFor_33 : decode cX0_fewestDropsFor 33 = .ok (.aload_n 0, 1) := by decide +kernel
theorem dX0_fewestDropsFor_34 : decode cX0_fewestDropsFor 34 = .ok (.iload_n 1, 1) := by decide +kernel
theorem dX0_fewestDropsFor_35 : decode cX0_fewestDropsFor 35 = .ok (.invokevirtual 81, 3) := by decide +kernel
theorem dX0_fewestDropsFor_38 : decode cX0_fewestDropsFor 38 = .ok (.invokestatic 60, 3) := by decide +kernel
theorem dX0_fewestDropsFor_41 : decode cX0_fewestDropsFor 41 = .ok (.ifCond .eq 8, 3) := by decide +kernel
theorem dX0_fewestDropsFor_44 : decode cX0_fewestDropsFor 44 = .ok (.iload 4, 2) := by decide +kernel
theorem dX0_fewestDropsFor_46 : decode cX0_fewestDropsFor 46 = .ok (.goto 4, 3) := by decide +kernel
theorem dX0_fewestDropsFor_49 : decode cX0_fewestDropsFor 49 = .ok (.iconst (-1), 1) := by decide +kernel
theorem dX0_fewestDropsFor_50 : decode cX0_fewestDropsFor 50 = .ok (.ireturn, 1) := by decide +kernel
set_option maxRecDepth 20000 in
theorem ggX0_canBeTuned_X0_hasGlass : GoodIn wsX0_canBeTuned wsX0_hasGlass := goodIn_r _ [6, 7, 26, 27, 28, 29, 30, 31, 32, 33, 34, 35, 36, 37, 38, 39, 40] (by decide +kernel) (by decide +kernel)
set_option maxRecDepth 20000 in
theorem gX0_canBeTuned_X0_hasGlass : GoodIn wsX0_canBeTuned (wsV RX0 64 RX0 yX0_hasGlass wsX0_hasGlass) := goodIn_app (goodIn_of _ (by decide +kernel)) ggX0_canBeTuned_X0_hasGlass
set_option maxRecDepth 20000 in
theorem ggX0_canBeTuned_X0_fewestDropsFor : GoodIn wsX0_canBeTuned wsX0_fewestDropsFor := goodIn_r _ [11, 12, 2, 3, 4, 5, 6, 7, 13, 14, 15, 16, 17, 18, 19, 20, 21, 22, 23, 24, 25, 26, 27, 28, 29, 30, 31, 32, 33, 34, 35, 36, 37, 38, 39, 40] (by decide +kernel) (by decide +kernel)
set_option maxRecDepth 20000 in
theorem gX0_canBeTuned_X0_fewestDropsFor : GoodIn wsX0_canBeTuned (wsV RX0 84 RX0 yX0_fewestDropsFor wsX0_fewestDropsFor) := goodIn_app (goodIn_of _ (by decide +kernel)) ggX0_canBeTuned_X0_fewestDropsFor
theorem dX0_canBeTuned_0 : decode cX0_canBeTuned 0 = .ok (.aload_n 0, 1) := by decide +kernel
theorem dX0_canBeTuned_1 : decode cX0_canBeTuned 1 = .ok (.iload_n 1, 1) := by decide +kernel
theorem dX0_canBeTuned_2 : decode cX0_canBeTuned 2 = .ok (.invokevirtual 64, 3) := by decide +kernel
theorem dX0_canBeTuned_5 : decode cX0_canBeTuned 5 = .ok (.ifCond .eq 26, 3) := by decide +kernel
theorem dX0_canBeTuned_8 : decode cX0_canBeTuned 8 = .ok (.aload_n 0, 1) := by decide +kernel
theorem dX0_canBeTuned_9 : decode cX0_canBeTuned 9 = .ok (.getfield 21, 3) := by decide +kernel
theorem dX0_canBeTuned_12 : decode cX0_canBeTuned 12 = .ok (.iload_n 1, 1) := by decide +kernel
theorem dX0_canBeTuned_13 : decode cX0_canBeTuned 13 = .ok (.baload, 1) := by decide +kernel
theorem dX0_canBeTuned_14 : decode cX0_canBeTuned 14 = .ok (.ifCond .ne 17, 3) := by decide +kernel
theorem dX0_canBeTuned_17 : decode cX0_canBeTuned 17 = .ok (.aload_n 0, 1) := by decide +kernel
theorem dX0_canBeTuned_18 : decode cX0_canBeTuned 18 = .ok (.iload_n 1, 1) := by decide +kernel
theorem dX0_canBeTuned_19 : decode cX0_canBeTuned 19 = .ok (.iload_n 2, 1) := by decide +kernel
theorem dX0_canBeTuned_20 : decode cX0_canBeTuned 20 = .ok (.invokevirtual 84, 3) := by decide +kernel
theorem dX0_canBeTuned_23 : decode cX0_canBeTuned 23 = .ok (.iconst (-1), 1) := by decide +kernel
theorem dX0_canBeTuned_24 : decode cX0_canBeTuned 24 = .ok (.if_icmp .eq 7, 3) := by decide +kernel
theorem dX0_canBeTuned_27 : decode cX0_canBeTuned 27 = .ok (.iconst 1, 1) := by decide +kernel
theorem dX0_canBeTuned_28 : decode cX0_canBeTuned 28 = .ok (.goto 4, 3) := by decide +kernel
theorem dX0_canBeTuned_31 : decode cX0_canBeTuned 31 = .ok (.iconst 0, 1) := by decide +kernel
theorem dX0_canBeTuned_32 : decode cX0_canBeTuned 32 = .ok (.ireturn, 1) := by decide +kernel
set_option maxRecDepth 20000 in
theorem ggX0_tuneTo_X0_canBeTuned : GoodIn wsX0_tuneTo wsX0_canBeTuned := goodIn_r _ [6, 7, 8, 9, 10, 5, 11, 12, 13, 14, 15, 16, 17, 18, 19, 20, 21, 22, 23, 24, 25, 26, 27, 28, 29, 30, 31, 32, 33, 34, 35, 36, 37, 38, 39, 40, 41, 42, 43, 44, 45] (by decide +kernel) (by decide +kernel)
set_option maxRecDepth 20000 in
theorem gX0_tuneTo_X0_canBeTuned : GoodIn wsX0_tuneTo (wsV RX0 87 RX0 yX0_canBeTuned wsX0_canBeTuned) := goodIn_app (goodIn_of _ (by decide +kernel)) ggX0_tuneTo_X0_canBeTuned
set_option maxRecDepth 20000 in
theorem ggX0_tuneTo_X0_fewestDropsFor : GoodIn wsX0_tuneTo wsX0_fewestDropsFor := goodIn_r _ [16, 17, 8, 9, 10, 5, 11, 12, 18, 19, 20, 21, 22, 23, 24, 25, 26, 27, 28, 29, 30, 31, 32, 33, 34, 35, 36, 37, 38, 39, 40, 41, 42, 43, 44, 45] (by decide +kernel) (by decide +kernel)
set_option maxRecDepth 20000 in
theorem gX0_tuneTo_X0_fewestDropsFor : GoodIn wsX0_tuneTo (wsV RX0 84 RX0 yX0_fewestDropsFor wsX0_fewestDropsFor) := goodIn_app (goodIn_of _ (by decide +kernel)) ggX0_tuneTo_X0_fewestDropsFor
theorem dX0_tuneTo_0 : decode cX0_tuneTo 0 = .ok (.aload_n 0, 1) := by decide +kernel
theorem dX0_tuneTo_1 : decode cX0_tuneTo 1 = .ok (.iload_n 1, 1) := by decide +kernel
theorem dX0_tuneTo_2 : decode cX0_tuneTo 2 = .ok (.iload_n 2, 1) := by decide +kernel
theorem dX0_tuneTo_3 : decode cX0_tuneTo 3 = .ok (.invokevirtual 87, 3) := by decide +kernel
theorem dX0_tuneTo_6 : decode cX0_tuneTo 6 = .ok (.ifCond .eq 15, 3) := by decide +kernel
theorem dX0_tuneTo_9 : decode cX0_tuneTo 9 = .ok (.aload_n 0, 1) := by decide +kernel
theorem dX0_tuneTo_10 : decode cX0_tuneTo 10 = .ok (.getfield 18, 3) := by decide +kernel
theorem dX0_tuneTo_13 : decode cX0_tuneTo 13 = .ok (.iload_n 1, 1) := by decide +kernel
theorem dX0_tuneTo_14 : decode cX0_tuneTo 14 = .ok (.aload_n 0, 1) := by decide +kernel
theorem dX0_tuneTo_15 : decode cX0_tuneTo 15 = .ok (.iload_n 1, 1) := by decide +kernel
theorem dX0_tuneTo_16 : decode cX0_tuneTo 16 = .ok (.iload_n 2, 1) := by decide +kernel
theorem dX0_tuneTo_17 : decode cX0_tuneTo 17 = .ok (.invokevirtual 84, 3) := by decide +kernel
theorem dX0_tuneTo_20 : decode cX0_tuneTo 20 = .ok (.iastore, 1) := by decide +kernel
theorem dX0_tuneTo_21 : decode cX0_tuneTo 21 = .ok (.return_, 1) := by decide +kernel
theorem dX0_crackedGlasses_0 : decode cX0_crackedGlasses 0 = .ok (.iconst 0, 1) := by decide +kernel
theorem dX0_crackedGlasses_1 : decode cX0_crackedGlasses 1 = .ok (.istore_n 1, 1) := by decide +kernel
theorem dX0_crackedGlasses_2 : decode cX0_crackedGlasses 2 = .ok (.iconst 0, 1) := by decide +kernel
theorem dX0_crackedGlasses_3 : decode cX0_crackedGlasses 3 = .ok (.istore_n 2, 1) := by decide +kernel
theorem dX0_crackedGlasses_4 : decode cX0_crackedGlasses 4 = .ok (.iload_n 2, 1) := by decide +kernel
theorem dX0_crackedGlasses_5 : decode cX0_crackedGlasses 5 = .ok (.aload_n 0, 1) := by decide +kernel
theorem dX0_crackedGlasses_6 : decode cX0_crackedGlasses 6 = .ok (.getfield 40, 3) := by decide +kernel
theorem dX0_crackedGlasses_9 : decode cX0_crackedGlasses 9 = .ok (.if_icmp .ge 21, 3) := by decide +kernel
theorem dX0_crackedGlasses_12 : decode cX0_crackedGlasses 12 = .ok (.aload_n 0, 1) := by decide +kernel
theorem dX0_crackedGlasses_13 : decode cX0_crackedGlasses 13 = .ok (.getfield 21, 3) := by decide +kernel
theorem dX0_crackedGlasses_16 : decode cX0_crackedGlasses 16 = .ok (.iload_n 2, 1) := by decide +kernel
theorem dX0_crackedGlasses_17 : decode cX0_crackedGlasses 17 = .ok (.baload, 1) := by decide +kernel
theorem dX0_crackedGlasses_18 : decode cX0_crackedGlasses 18 = .ok (.ifCond .eq 6, 3) := by decide +kernel
theorem dX0_crackedGlasses_21 : decode cX0_crackedGlasses 21 = .ok (.iinc 1 1, 3) := by decide +kernel
theorem dX0_crackedGlasses_24 : decode cX0_crackedGlasses 24 = .ok (.iinc 2 1, 3) := by decide +kernel
theorem dX0_crackedGlasses_27 : decode cX0_crackedGlasses 27 = .ok (.goto (-23), 3) := by decide +kernel
theorem dX0_crackedGlasses_30 : decode cX0_crackedGlasses 30 = .ok (.iload_n 1, 1) := by decide +kernel
theorem dX0_crackedGlasses_31 : decode cX0_crackedGlasses 31 = .ok (.ireturn, 1) := by decide +kernel
theorem dX0_glassesInRow_0 : decode cX0_glassesInRow 0 = .ok (.iconst 0, 1) := by decide +kernel
theorem dX0_glassesInRow_1 : decode cX0_glassesInRow 1 = .ok (.istore_n 2, 1) := by decide +kernel
theorem dX0_glassesInRow_2 : decode cX0_glassesInRow 2 = .ok (.iconst 0, 1) := by decide +kernel
theorem dX0_glassesInRow_3 : decode cX0_glassesInRow 3 = .ok (.istore_n 3, 1) := by decide +kernel
theorem dX0_glassesInRow_4 : decode cX0_glassesInRow 4 = .ok (.iload_n 3, 1) := by decide +kernel
theorem dX0_glassesInRow_5 : decode cX0_glassesInRow 5 = .ok (.aload_n 0, 1) := by decide +kernel
theorem dX0_glassesInRow_6 : decode cX0_glassesInRow 6 = .ok (.getfield 40, 3) := by decide +kernel
theorem dX0_glassesInRow_9 : decode cX0_glassesInRow 9 = .ok (.if_icmp .ge 22, 3) := by decide +kernel
theorem dX0_glassesInRow_12 : decode cX0_glassesInRow 12 = .ok (.aload_n 0, 1) := by decide +kernel
theorem dX0_glassesInRow_13 : decode cX0_glassesInRow 13 = .ok (.getfield 9, 3) := by decide +kernel
theorem dX0_glassesInRow_16 : decode cX0_glassesInRow 16 = .ok (.iload_n 3, 1) := by decide +kernel
theorem dX0_glassesInRow_17 : decode cX0_glassesInRow 17 = .ok (.iaload, 1) := by decide +kernel
theorem dX0_glassesInRow_18 : decode cX0_glassesInRow 18 = .ok (.iload_n 1, 1) := by decide +kernel
theorem dX0_glassesInRow_19 : decode cX0_glassesInRow 19 = .ok (.if_icmp .ne 6, 3) := by decide +kernel
theorem dX0_glassesInRow_22 : decode cX0_glassesInRow 22 = .ok (.iinc 2 1, 3) := by decide +kernel
theorem dX0_glassesInRow_25 : decode cX0_glassesInRow 25 = .ok (.iinc 3 1, 3) := by decide +kernel
theorem dX0_glassesInRow_28 : decode cX0_glassesInRow 28 = .ok (.goto (-24), 3) := by decide +kernel
theorem dX0_glassesInRow_31 : decode cX0_glassesInRow 31 = .ok (.iload_n 2, 1) := by decide +kernel
theorem dX0_glassesInRow_32 : decode cX0_glassesInRow 32 = .ok (.ireturn, 1) := by decide +kernel
theorem dX0_allAir_0 : decode cX0_allAir 0 = .ok (.iconst 0, 1) := by decide +kernel
theorem dX0_allAir_1 : decode cX0_allAir 1 = .ok (.istore_n 1, 1) := by decide +kernel
theorem dX0_allAir_2 : decode cX0_allAir 2 = .ok (.iconst 0, 1) := by decide +kernel
theorem dX0_allAir_3 : decode cX0_allAir 3 = .ok (.istore_n 2, 1) := by decide +kernel
theorem dX0_allAir_4 : decode cX0_allAir 4 = .ok (.iload_n 2, 1) := by decide +kernel
theorem dX0_allAir_5 : decode cX0_allAir 5 = .ok (.iconst 4, 1) := by decide +kernel
theorem dX0_allAir_6 : decode cX0_allAir 6 = .ok (.if_icmp .ge 18, 3) := by decide +kernel
theorem dX0_allAir_9 : decode cX0_allAir 9 = .ok (.iload_n 1, 1) := by decide +kernel
theorem dX0_allAir_10 : decode cX0_allAir 10 = .ok (.aload_n 0, 1) := by decide +kernel
theorem dX0_allAir_11 : decode cX0_allAir 11 = .ok (.getfield 34, 3) := by decide +kernel
theorem dX0_allAir_14 : decode cX0_allAir 14 = .ok (.iload_n 2, 1) := by decide +kernel
theorem dX0_allAir_15 : decode cX0_allAir 15 = .ok (.iaload, 1) := by decide +kernel
theorem dX0_allAir_16 : decode cX0_allAir 16 = .ok (.iadd, 1) := by decide +kernel
theorem dX0_allAir_17 : decode cX0_allAir 17 = .ok (.istore_n 1, 1) := by decide +kernel
theorem dX0_allAir_18 : decode cX0_allAir 18 = .ok (.iinc 2 1, 3) := by decide +kernel
theorem dX0_allAir_21 : decode cX0_allAir 21 = .ok (.goto (-17), 3) := by decide +kernel
theorem dX0_allAir_24 : decode cX0_allAir 24 = .ok (.iload_n 1, 1) := by decide +kernel
theorem dX0_allAir_25 : decode cX0_allAir 25 = .ok (.ireturn, 1) := by decide +kernel
set_option maxRecDepth 20000 in
theorem ggX0_beatAgainst_X0_hasGlass : GoodIn wsX0_beatAgainst wsX0_hasGlass := goodIn_r _ [6, 7, 29, 30, 31, 32, 33, 34, 35, 36, 37, 38, 39, 40, 41, 42, 43] (by decide +kernel) (by decide +kernel)
set_option maxRecDepth 20000 in
theorem gX0_beatAgainst_X0_hasGlass : GoodIn wsX0_beatAgainst (wsV RX0 64 RX0 yX0_hasGlass wsX0_hasGlass) := goodIn_app (goodIn_of _ (by decide +kernel)) ggX0_beatAgainst_X0_hasGlass
set_option maxRecDepth 20000 in
theorem ggX0_beatAgainst_X0_toneOf : GoodIn wsX0_beatAgainst wsX0_toneOf := goodIn_r _ [11, 12, 13, 14, 15, 16, 17, 2, 3, 4, 5, 6, 7, 18, 19, 20, 21, 22, 23, 29, 30, 31, 32, 33, 34, 35, 36, 37, 38, 39, 40, 41, 42, 43] (by decide +kernel) (by decide +kernel)
set_option maxRecDepth 20000 in
theorem gX0_beatAgainst_X0_toneOf : GoodIn wsX0_beatAgainst (wsV RX0 91 RX0 yX0_toneOf wsX0_toneOf) := goodIn_app (goodIn_of _ (by decide +kernel)) ggX0_beatAgainst_X0_toneOf
set_option maxRecDepth 20000 in
theorem ggX0_beatAgainst_X2_distance : GoodIn wsX0_beatAgainst wsX2_distance := goodIn_r _ [26] (by decide +kernel) (by decide +kernel)
set_option maxRecDepth 20000 in
theorem gX0_beatAgainst_X2_distance_n94 : GoodIn wsX0_beatAgainst (wsX2_distance) := ggX0_beatAgainst_X2_distance
set_option maxRecDepth 20000 in
theorem ggX0_beatAgainst_X2_isWithin : GoodIn wsX0_beatAgainst wsX2_isWithin := goodIn_r _ [28] (by decide +kernel) (by decide +kernel)
set_option maxRecDepth 20000 in
theorem gX0_beatAgainst_X2_isWithin_n60 : GoodIn wsX0_beatAgainst (wsX2_isWithin) := ggX0_beatAgainst_X2_isWithin
theorem dX0_beatAgainst_0 : decode cX0_beatAgainst 0 = .ok (.aload_n 0, 1) := by decide +kernel
theorem dX0_beatAgainst_1 : decode cX0_beatAgainst 1 = .ok (.iload_n 1, 1) := by decide +kernel
theorem dX0_beatAgainst_2 : decode cX0_beatAgainst 2 = .ok (.invokevirtual 64, 3) := by decide +kernel
theorem dX0_beatAgainst_5 : decode cX0_beatAgainst 5 = .ok (.ifCond .eq 31, 3) := by decide +kernel
theorem dX0_beatAgainst_8 : decode cX0_beatAgainst 8 = .ok (.aload_n 0, 1) := by decide +kernel
theorem dX0_beatAgainst_9 : decode cX0_beatAgainst 9 = .ok (.iload_n 2, 1) := by decide +kernel
theorem dX0_beatAgainst_10 : decode cX0_beatAgainst 10 = .ok (.invokevirtual 64, 3) := by decide +kernel
theorem dX0_beatAgainst_13 : decode cX0_beatAgainst 13 = .ok (.ifCond .eq 23, 3) := by decide +kernel
theorem dX0_beatAgainst_16 : decode cX0_beatAgainst 16 = .ok (.aload_n 0, 1) := by decide +kernel
theorem dX0_beatAgainst_17 : decode cX0_beatAgainst 17 = .ok (.getfield 25, 3) := by decide +kernel
theorem dX0_beatAgainst_20 : decode cX0_beatAgainst 20 = .ok (.iload_n 1, 1) := by decide +kernel
theorem dX0_beatAgainst_21 : decode cX0_beatAgainst 21 = .ok (.iaload, 1) := by decide +kernel
theorem dX0_beatAgainst_22 : decode cX0_beatAgainst 22 = .ok (.iconst 1, 1) := by decide +kernel
theorem dX0_beatAgainst_23 : decode cX0_beatAgainst 23 = .ok (.if_icmp .lt 13, 3) := by decide +kernel
theorem dX0_beatAgainst_26 : decode cX0_beatAgainst 26 = .ok (.aload_n 0, 1) := by decide +kernel
theorem dX0_beatAgainst_27 : decode cX0_beatAgainst 27 = .ok (.getfield 25, 3) := by decide +kernel
theorem dX0_beatAgainst_30 : decode cX0_beatAgainst 30 = .ok (.iload_n 2, 1) := by decide +kernel
theorem dX0_beatAgainst_31 : decode cX0_beatAgainst 31 = .ok (.iaload, 1) := by decide +kernel
theorem dX0_beatAgainst_32 : decode cX0_beatAgainst 32 = .ok (.iconst 1, 1) := by decide +kernel
theorem dX0_beatAgainst_33 : decode cX0_beatAgainst 33 = .ok (.if_icmp .ge 5, 3) := by decide +kernel
theorem dX0_beatAgainst_36 : decode cX0_beatAgainst 36 = .ok (.iconst 0, 1) := by decide +kernel
theorem dX0_beatAgainst_37 : decode cX0_beatAgainst 37 = .ok (.ireturn, 1) := by decide +kernel
theorem dX0_beatAgainst_38 : decode cX0_beatAgainst 38 = .ok (.aload_n 0, 1) := by decide +kernel
theorem dX0_beatAgainst_39 : decode cX0_beatAgainst 39 = .ok (.iload_n 1, 1) := by decide +kernel
theorem dX0_beatAgainst_40 : decode cX0_beatAgainst 40 = .ok (.invokevirtual 91, 3) := by decide +kernel
theorem dX0_beatAgainst_43 : decode cX0_beatAgainst 43 = .ok (.aload_n 0, 1) := by decide +kernel
theorem dX0_beatAgainst_44 : decode cX0_beatAgainst 44 = .ok (.iload_n 2, 1) := by decide +kernel
theorem dX0_beatAgainst_45 : decode cX0_beatAgainst 45 = .ok (.invokevirtual 91, 3) := by decide +kernel
theorem dX0_beatAgainst_48 : decode cX0_beatAgainst 48 = .ok (.invokestatic 94, 3) := by decide +kernel
theorem dX0_beatAgainst_51 : decode cX0_beatAgainst 51 = .ok (.iconst 1, 1) := by decide +kernel
theorem dX0_beatAgainst_52 : decode cX0_beatAgainst 52 = .ok (.iconst 2, 1) := by decide +kernel
theorem dX0_beatAgainst_53 : decode cX0_beatAgainst 53 = .ok (.invokestatic 60, 3) := by decide +kernel
theorem dX0_beatAgainst_56 : decode cX0_beatAgainst 56 = .ok (.ireturn, 1) := by decide +kernel
set_option maxRecDepth 20000 in
theorem ggX0_glassesBeatingAgainst_X0_beatAgainst : GoodIn wsX0_glassesBeatingAgainst wsX0_beatAgainst := goodIn_r _ [6, 7, 8, 9, 10, 5, 11, 1, 12, 13, 14, 15, 16, 17, 18, 19, 20, 21, 22, 23, 24, 25, 26, 27, 28, 29, 30, 31, 32, 33, 34, 35, 36, 37, 38, 39, 40, 41, 42, 43, 44, 45, 46, 47] (by decide +kernel) (by decide +kernel)
set_option maxRecDepth 20000 in
theorem gX0_glassesBeatingAgainst_X0_beatAgainst : GoodIn wsX0_glassesBeatingAgainst (wsV RX0 97 RX0 yX0_beatAgainst wsX0_beatAgainst) := goodIn_app (goodIn_of _ (by decide +kernel)) ggX0_glassesBeatingAgainst_X0_beatAgainst
theorem dX0_glassesBeatingAgainst_0 : decode cX0_glassesBeatingAgainst 0 = .ok (.iconst 0, 1) := by decide +kernel
theorem dX0_glassesBeatingAgainst_1 : decode cX0_glassesBeatingAgainst 1 = .ok (.istore_n 2, 1) := by decide +kernel
theorem dX0_glassesBeatingAgainst_2 : decode cX0_glassesBeatingAgainst 2 = .ok (.iconst 0, 1) := by decide +kernel
theorem dX0_glassesBeatingAgainst_3 : decode cX0_glassesBeatingAgainst 3 = .ok (.istore_n 3, 1) := by decide +kernel
theorem dX0_glassesBeatingAgainst_4 : decode cX0_glassesBeatingAgainst 4 = .ok (.iload_n 3, 1) := by decide +kernel
theorem dX0_glassesBeatingAgainst_5 : decode cX0_glassesBeatingAgainst 5 = .ok (.aload_n 0, 1) := by decide +kernel
theorem dX0_glassesBeatingAgainst_6 : decode cX0_glassesBeatingAgainst 6 = .ok (.getfield 40, 3) := by decide +kernel
theorem dX0_glassesBeatingAgainst_9 : decode cX0_glassesBeatingAgainst 9 = .ok (.if_icmp .ge 21, 3) := by decide +kernel
theorem dX0_glassesBeatingAgainst_12 : decode cX0_glassesBeatingAgainst 12 = .ok (.aload_n 0, 1) := by decide +kernel
theorem dX0_glassesBeatingAgainst_13 : decode cX0_glassesBeatingAgainst 13 = .ok (.iload_n 1, 1) := by decide +kernel
theorem dX0_glassesBeatingAgainst_14 : decode cX0_glassesBeatingAgainst 14 = .ok (.iload_n 3, 1) := by decide +kernel
theorem dX0_glassesBeatingAgainst_15 : decode cX0_glassesBeatingAgainst 15 = .ok (.invokevirtual 97, 3) := by decide +kernel
theorem dX0_glassesBeatingAgainst_18 : decode cX0_glassesBeatingAgainst 18 = .ok (.ifCond .eq 6, 3) := by decide +kernel
theorem dX0_glassesBeatingAgainst_21 : decode cX0_glassesBeatingAgainst 21 = .ok (.iinc 2 1, 3) := by decide +kernel
theorem dX0_glassesBeatingAgainst_24 : decode cX0_glassesBeatingAgainst 24 = .ok (.iinc 3 1, 3) := by decide +kernel
theorem dX0_glassesBeatingAgainst_27 : decode cX0_glassesBeatingAgainst 27 = .ok (.goto (-23), 3) := by decide +kernel
theorem dX0_glassesBeatingAgainst_30 : decode cX0_glassesBeatingAgainst 30 = .ok (.iload_n 2, 1) := by decide +kernel
theorem dX0_glassesBeatingAgainst_31 : decode cX0_glassesBeatingAgainst 31 = .ok (.ireturn, 1) := by decide +kernel
set_option maxRecDepth 20000 in
theorem ggX0_pairsBeating_X0_glassesBeatingAgainst : GoodIn wsX0_pairsBeating wsX0_glassesBeatingAgainst := goodIn_r _ [6, 1, 7, 8, 9, 5, 10, 11, 12, 13, 14, 15, 16, 17, 18, 19, 20, 21, 22, 23, 24, 25, 26, 27, 28, 29, 30, 31, 32, 33, 34, 35, 36, 37, 38, 39, 40, 41, 42, 43, 44, 45, 46, 47, 48, 49, 50, 51] (by decide +kernel) (by decide +kernel)
set_option maxRecDepth 20000 in
theorem gX0_pairsBeating_X0_glassesBeatingAgainst : GoodIn wsX0_pairsBeating (wsV RX0 100 RX0 yX0_glassesBeatingAgainst wsX0_glassesBeatingAgainst) := goodIn_app (goodIn_of _ (by decide +kernel)) ggX0_pairsBeating_X0_glassesBeatingAgainst
theorem dX0_pairsBeating_0 : decode cX0_pairsBeating 0 = .ok (.iconst 0, 1) := by decide +kernel
theorem dX0_pairsBeating_1 : decode cX0_pairsBeating 1 = .ok (.istore_n 1, 1) := by decide +kernel
theorem dX0_pairsBeating_2 : decode cX0_pairsBeating 2 = .ok (.iconst 0, 1) := by decide +kernel
theorem dX0_pairsBeating_3 : decode cX0_pairsBeating 3 = .ok (.istore_n 2, 1) := by decide +kernel
theorem dX0_pairsBeating_4 : decode cX0_pairsBeating 4 = .ok (.iload_n 2, 1) := by decide +kernel
theorem dX0_pairsBeating_5 : decode cX0_pairsBeating 5 = .ok (.aload_n 0, 1) := by decide +kernel
theorem dX0_pairsBeating_6 : decode cX0_pairsBeating 6 = .ok (.getfield 40, 3) := by decide +kernel
theorem dX0_pairsBeating_9 : decode cX0_pairsBeating 9 = .ok (.if_icmp .ge 17, 3) := by decide +kernel
theorem dX0_pairsBeating_12 : decode cX0_pairsBeating 12 = .ok (.iload_n 1, 1) := by decide +kernel
theorem dX0_pairsBeating_13 : decode cX0_pairsBeating 13 = .ok (.aload_n 0, 1) := by decide +kernel
theorem dX0_pairsBeating_14 : decode cX0_pairsBeating 14 = .ok (.iload_n 2, 1) := by decide +kernel
theorem dX0_pairsBeating_15 : decode cX0_pairsBeating 15 = .ok (.invokevirtual 100, 3) := by decide +kernel
theorem dX0_pairsBeating_18 : decode cX0_pairsBeating 18 = .ok (.iadd, 1) := by decide +kernel
theorem dX0_pairsBeating_19 : decode cX0_pairsBeating 19 = .ok (.istore_n 1, 1) := by decide +kernel
theorem dX0_pairsBeating_20 : decode cX0_pairsBeating 20 = .ok (.iinc 2 1, 3) := by decide +kernel
theorem dX0_pairsBeating_23 : decode cX0_pairsBeating 23 = .ok (.goto (-19), 3) := by decide +kernel
theorem dX0_pairsBeating_26 : decode cX0_pairsBeating 26 = .ok (.iload_n 1, 1) := by decide +kernel
theorem dX0_pairsBeating_27 : decode cX0_pairsBeating 27 = .ok (.iconst 2, 1) := by decide +kernel
theorem dX0_pairsBeating_28 : decode cX0_pairsBeating 28 = .ok (.idiv, 1) := by decide +kernel
theorem dX0_pairsBeating_29 : decode cX0_pairsBeating 29 = .ok (.ireturn, 1) := by decide +kernel
set_option maxRecDepth 20000 in
theorem ggX0_letGoBy_X0_fillBellows : GoodIn wsX0_letGoBy wsX0_fillBellows := goodIn_r _ [6, 7, 8, 9, 10, 11, 12, 72, 73, 74, 75, 76, 77, 78, 79, 80, 81, 82, 83, 84, 85, 86] (by decide +kernel) (by decide +kernel)
set_option maxRecDepth 20000 in
theorem gX0_letGoBy_X0_fillBellows : GoodIn wsX0_letGoBy (wsV RX0 103 RX0 yX0_fillBellows wsX0_fillBellows) := goodIn_app (goodIn_of _ (by decide +kernel)) ggX0_letGoBy_X0_fillBellows
set_option maxRecDepth 20000 in
theorem ggX0_letGoBy_X0_playNotes : GoodIn wsX0_letGoBy wsX0_playNotes := goodIn_r _ [16, 17, 18, 19, 1, 20, 21, 22, 23, 24, 25, 26, 27, 28, 5, 29, 30, 31, 32, 33, 34, 35, 7, 36, 37, 38, 39, 40, 41, 42, 43, 44, 45, 46, 11, 47, 48, 49, 50, 51, 52, 53, 54, 55, 56, 57, 58, 59, 60, 61, 62, 63, 64, 65, 66, 67, 72, 73, 74, 75, 76, 77, 78, 79, 80, 81, 82, 83, 84, 85, 86, 87, 88, 89, 90, 91] (by decide +kernel) (by decide +kernel)
set_option maxRecDepth 20000 in
theorem gX0_letGoBy_X0_playNotes : GoodIn wsX0_letGoBy (wsV RX0 106 RX0 yX0_playNotes wsX0_playNotes) := goodIn_app (goodIn_of _ (by decide +kernel)) ggX0_letGoBy_X0_playNotes
set_option maxRecDepth 20000 in
theorem ggX0_letGoBy_X0_fadeAndDry : GoodIn wsX0_letGoBy wsX0_fadeAndDry := goodIn_r _ [71, 1, 17, 18, 67, 45, 46, 11, 47, 44, 72, 73, 74, 75, 76, 77, 78, 79, 80, 81, 82, 83, 84, 85, 86] (by decide +kernel) (by decide +kernel)
set_option maxRecDepth 20000 in
theorem gX0_letGoBy_X0_fadeAndDry : GoodIn wsX0_letGoBy (wsV RX0 109 RX0 yX0_fadeAndDry wsX0_fadeAndDry) := goodIn_app (goodIn_of _ (by decide +kernel)) ggX0_letGoBy_X0_fadeAndDry
theorem dX0_letGoBy_0 : decode cX0_letGoBy 0 = .ok (.iconst 0, 1) := by decide +kernel
theorem dX0_letGoBy_1 : decode cX0_letGoBy 1 = .ok (.istore_n 2, 1) := by decide +kernel
theorem dX0_letGoBy_2 : decode cX0_letGoBy 2 = .ok (.iload_n 2, 1) := by decide +kernel
theorem dX0_letGoBy_3 : decode cX0_letGoBy 3 = .ok (.iload_n 1, 1) := by decide +kernel
theorem dX0_letGoBy_4 : decode cX0_letGoBy 4 = .ok (.if_icmp .ge 31, 3) := by decide +kernel
theorem dX0_letGoBy_7 : decode cX0_letGoBy 7 = .ok (.aload_n 0, 1) := by decide +kernel
theorem dX0_letGoBy_8 : decode cX0_letGoBy 8 = .ok (.invokevirtual 103, 3) := by decide +kernel
theorem dX0_letGoBy_11 : decode cX0_letGoBy 11 = .ok (.aload_n 0, 1) := by decide +kernel
theorem dX0_letGoBy_12 : decode cX0_letGoBy 12 = .ok (.invokevirtual 106, 3) := by decide +kernel
theorem dX0_letGoBy_15 : decode cX0_letGoBy 15 = .ok (.aload_n 0, 1) := by decide +kernel
theorem dX0_letGoBy_16 : decode cX0_letGoBy 16 = .ok (.invokevirtual 109, 3) := by decide +kernel
theorem dX0_letGoBy_19 : decode cX0_letGoBy 19 = .ok (.aload_n 0, 1) := by decide +kernel
theorem dX0_letGoBy_20 : decode cX0_letGoBy 20 = .ok (.dup, 1) := by decide +kernel
theorem dX0_letGoBy_21 : decode cX0_letGoBy 21 = .ok (.getfield 44, 3) := by decide +kernel
theorem dX0_letGoBy_24 : decode cX0_letGoBy 24 = .ok (.iconst 1, 1) := by decide +kernel
theorem dX0_letGoBy_25 : decode cX0_letGoBy 25 = .ok (.iadd, 1) := by decide +kernel
theorem dX0_letGoBy_26 : decode cX0_letGoBy 26 = .ok (.putfield 44, 3) := by decide +kernel
theorem dX0_letGoBy_29 : decode cX0_letGoBy 29 = .ok (.iinc 2 1, 3) := by decide +kernel
theorem dX0_letGoBy_32 : decode cX0_letGoBy 32 = .ok (.goto (-30), 3) := by decide +kernel
theorem dX0_letGoBy_35 : decode cX0_letGoBy 35 = .ok (.return_, 1) := by decide +kernel
theorem dX0_fillBellows_0 : decode cX0_fillBellows 0 = .ok (.iconst 0, 1) := by decide +kernel
theorem dX0_fillBellows_1 : decode cX0_fillBellows 1 = .ok (.istore_n 1, 1) := by decide +kernel
theorem dX0_fillBellows_2 : decode cX0_fillBellows 2 = .ok (.iload_n 1, 1) := by decide +kernel
theorem dX0_fillBellows_3 : decode cX0_fillBellows 3 = .ok (.iconst 4, 1) := by decide +kernel
theorem dX0_fillBellows_4 : decode cX0_fillBellows 4 = .ok (.if_icmp .ge 33, 3) := by decide +kernel
theorem dX0_fillBellows_7 : decode cX0_fillBellows 7 = .ok (.aload_n 0, 1) := by decide +kernel
theorem dX0_fillBellows_8 : decode cX0_fillBellows 8 = .ok (.getfield 34, 3) := by decide +kernel
theorem dX0_fillBellows_11 : decode cX0_fillBellows 11 = .ok (.iload_n 1, 1) := by decide +kernel
theorem dX0_fillBellows_12 : decode cX0_fillBellows 12 = .ok (.bipush 60, 2) := by decide +kernel
theorem dX0_fillBellows_14 : decode cX0_fillBellows 14 = .ok (.aload_n 0, 1) := by decide +kernel
theorem dX0_fillBellows_15 : decode cX0_fillBellows 15 = .ok (.getfield 34, 3) := by decide +kernel
theorem dX0_fillBellows_18 : decode cX0_fillBellows 18 = .ok (.iload_n 1, 1) := by decide +kernel
theorem dX0_fillBellows_19 : decode cX0_fillBellows 19 = .ok (.iaload, 1) := by decide +kernel
theorem dX0_fillBellows_20 : decode cX0_fillBellows 20 = .ok (.aload_n 0, 1) := by decide +kernel
theorem dX0_fillBellows_21 : decode cX0_fillBellows 21 = .ok (.getfield 37, 3) := by decide +kernel
theorem dX0_fillBellows_24 : decode cX0_fillBellows 24 = .ok (.iload_n 1, 1) := by decide +kernel
theorem dX0_fillBellows_25 : decode cX0_fillBellows 25 = .ok (.iaload, 1) := by decide +kernel
theorem dX0_fillBellows_26 : decode cX0_fillBellows 26 = .ok (.iadd, 1) := by decide +kernel
theorem dX0_fillBellows_27 : decode cX0_fillBellows 27 = .ok (.invokestatic 112, 3) := by decide +kernel
theorem dX0_fillBellows_30 : decode cX0_fillBellows 30 = .ok (.iastore, 1) := by decide +kernel
theorem dX0_fillBellows_31 : decode cX0_fillBellows 31 = .ok (.iinc 1 1, 3) := by decide +kernel
theorem dX0_fillBellows_34 : decode cX0_fillBellows 34 = .ok (.goto (-32), 3) := by decide +kernel
theorem dX0_fillBellows_37 : decode cX0_fillBellows 37 = .ok (.return_, 1) := by decide +kernel
set_option maxRecDepth 20000 in
theorem ggX0_playNotes_X1_beatAt : GoodIn wsX0_playNotes wsX1_beatAt := goodIn_r _ [9, 10, 71, 72, 73, 74, 75] (by decide +kernel) (by decide +kernel)
set_option maxRecDepth 20000 in
theorem gX0_playNotes_X1_beatAt_n115 : GoodIn wsX0_playNotes (wsX1_beatAt) := ggX0_playNotes_X1_beatAt
set_option maxRecDepth 20000 in
theorem ggX0_playNotes_X0_playerFor : GoodIn wsX0_playNotes wsX0_playerFor := goodIn_r _ [15, 1, 16, 2, 17, 18, 19, 20, 14, 21, 22, 23, 24, 25, 26, 27, 28, 29, 30, 31, 32, 33, 34, 35, 36, 37, 38, 39, 40, 41, 42, 43, 44, 45, 46, 47, 56, 57, 58, 59, 60, 61, 62, 63, 64, 65, 66, 67, 68, 69, 70] (by decide +kernel) (by decide +kernel)
set_option maxRecDepth 20000 in
theorem gX0_playNotes_X0_playerFor : GoodIn wsX0_playNotes (wsV RX0 132 RX0 yX0_playerFor wsX0_playerFor) := goodIn_app (goodIn_of _ (by decide +kernel)) ggX0_playNotes_X0_playerFor
set_option maxRecDepth 20000 in
theorem ggX0_playNotes_X0_hasGlass : GoodIn wsX0_playNotes wsX0_hasGlass := goodIn_r _ [39, 1, 56, 57, 58, 59, 60, 61, 62, 63, 64, 65, 66, 67, 68, 69, 70] (by decide +kernel) (by decide +kernel)
set_option maxRecDepth 20000 in
theorem gX0_playNotes_X0_hasGlass : GoodIn wsX0_playNotes (wsV RX0 64 RX0 yX0_hasGlass wsX0_hasGlass) := goodIn_app (goodIn_of _ (by decide +kernel)) ggX0_playNotes_X0_hasGlass
set_option maxRecDepth 20000 in
theorem ggX0_playNotes_X0_rub : GoodIn wsX0_playNotes wsX0_rub := goodIn_r _ [51, 52, 53, 17, 22, 2, 54, 55, 31, 32, 33, 34, 35, 30, 16, 26, 27, 28, 14, 29, 36, 37, 38, 39, 1, 40, 41, 42, 43, 44, 45, 46, 24, 47, 18, 19, 20, 21, 23, 25, 56, 57, 58, 59, 60, 61, 62, 63, 64, 65, 66, 67, 68, 69, 70] (by decide +kernel) (by decide +kernel)
set_option maxRecDepth 20000 in
theorem gX0_playNotes_X0_rub : GoodIn wsX0_playNotes (wsV RX0 135 RX0 yX0_rub wsX0_rub) := goodIn_app (goodIn_of _ (by decide +kernel)) ggX0_playNotes_X0_rub
theorem dX0_playNotes_0 : decode cX0_playNotes 0 = .ok (.iconst 0, 1) := by decide +kernel
theorem dX0_playNotes_1 : decode cX0_playNotes 1 = .ok (.istore_n 1, 1) := by decide +kernel
theorem dX0_playNotes_2 : decode cX0_playNotes 2 = .ok (.iload_n 1, 1) := by decide +kernel
theorem dX0_playNotes_3 : decode cX0_playNotes 3 = .ok (.aload_n 0, 1) := by decide +kernel
theorem dX0_playNotes_4 : decode cX0_playNotes 4 = .ok (.getfield 40, 3) := by decide +kernel
theorem dX0_playNotes_7 : decode cX0_playNotes 7 = .ok (.if_icmp .ge 16, 3) := by decide +kernel
theorem dX0_playNotes_10 : decode cX0_playNotes 10 = .ok (.aload_n 0, 1) := by decide +kernel
theorem dX0_playNotes_11 : decode cX0_playNotes 11 = .ok (.getfield 31, 3) := by decide +kernel
theorem dX0_playNotes_14 : decode cX0_playNotes 14 = .ok (.iload_n 1, 1) := by decide +kernel
theorem dX0_playNotes_15 : decode cX0_playNotes 15 = .ok (.iconst 0, 1) := by decide +kernel
theorem dX0_playNotes_16 : decode cX0_playNotes 16 = .ok (.bastore, 1) := by decide +kernel
theorem dX0_playNotes_17 : decode cX0_playNotes 17 = .ok (.iinc 1 1, 3) := by decide +kernel
theorem dX0_playNotes_20 : decode cX0_playNotes 20 = .ok (.goto (-18), 3) := by decide +kernel
theorem dX0_playNotes_23 : decode cX0_playNotes 23 = .ok (.aload_n 0, 1) := by decide +kernel
theorem dX0_playNotes_24 : decode cX0_playNotes 24 = .ok (.getfield 56, 3) := by decide +kernel
theorem dX0_playNotes_27 : decode cX0_playNotes 27 = .ok (.aload_n 0, 1) := by decide +kernel
theorem dX0_playNotes_28 : decode cX0_playNotes 28 = .ok (.getfield 44, 3) := by decide +kernel
theorem dX0_playNotes_31 : decode cX0_playNotes 31 = .ok (.invokevirtual 115, 3) := by decide +kernel
theorem dX0_playNotes_34 : decode cX0_playNotes 34 = .ok (.istore_n 1, 1) := by decide +kernel
theorem dX0_playNotes_35 : decode cX0_playNotes 35 = .ok (.iconst 0, 1) := by decide +kernel
theorem dX0_playNotes_36 : decode cX0_playNotes 36 = .ok (.istore_n 2, 1) := by decide +kernel
theorem dX0_playNotes_37 : decode cX0_playNotes 37 = .ok (.iload_n 2, 1) := by decide +kernel
theorem dX0_playNotes_38 : decode cX0_playNotes 38 = .ok (.aload_n 0, 1) := by decide +kernel
theorem dX0_playNotes_39 : decode cX0_playNotes 39 = .ok (.getfield 56, 3) := by decide +kernel
theorem dX0_playNotes_42 : decode cX0_playNotes 42 = .ok (.getfield 120, 3) := by decide +kernel
theorem dX0_playNotes_45 : decode cX0_playNotes 45 = .ok (.if_icmp .ge 89, 3) := by decide +kernel
theorem dX0_playNotes_48 : decode cX0_playNotes 48 = .ok (.aload_n 0, 1) := by decide +kernel
theorem dX0_playNotes_49 : decode cX0_playNotes 49 = .ok (.getfield 56, 3) := by decide +kernel
theorem dX0_playNotes_52 : decode cX0_playNotes 52 = .ok (.getfield 123, 3) := by decide +kernel
theorem dX0_playNotes_55 : decode cX0_playNotes 55 = .ok (.iload_n 2, 1) := by decide +kernel
theorem dX0_playNotes_56 : decode cX0_playNotes 56 = .ok (.iaload, 1) := by decide +kernel
theorem dX0_playNotes_57 : decode cX0_playNotes 57 = .ok (.iload_n 1, 1) := by decide +kernel
theorem dX0_playNotes_58 : decode cX0_playNotes 58 = .ok (.if_icmp .ne 70, 3) := by decide +kernel
theorem dX0_playNotes_61 : decode cX0_playNotes 61 = .ok (.aload_n 0, 1) := by decide +kernel
theorem dX0_playNotes_62 : decode cX0_playNotes 62 = .ok (.aload_n 0, 1) := by decide +kernel
theorem dX0_playNotes_63 : decode cX0_playNotes 63 = .ok (.getfield 56, 3) := by decide +kernel
theorem dX0_playNotes_66 : decode cX0_playNotes 66 = .ok (.getfield 126, 3) := by decide +kernel
theorem dX0_playNotes_69 : decode cX0_playNotes 69 = .ok (.iload_n 2, 1) := by decide +kernel
theorem dX0_playNotes_70 : decode cX0_playNotes 70 = .ok (.iaload, 1) := by decide +kernel
theorem dX0_playNotes_71 : decode cX0_playNotes 71 = .ok (.aload_n 0, 1) := by decide +kernel
theorem dX0_playNotes_72 : decode cX0_playNotes 72 = .ok (.getfield 56, 3) := by decide +kernel
theorem dX0_playNotes_75 : decode cX0_playNotes 75 = .ok (.getfield 129, 3) := by decide +kernel
theorem dX0_playNotes_78 : decode cX0_playNotes 78 = .ok (.iload_n 2, 1) := by decide +kernel
theorem dX0_playNotes_79 : decode cX0_playNotes 79 = .ok (.iaload, 1) := by decide +kernel
theorem dX0_playNotes_80 : decode cX0_playNotes 80 = .ok (.invokevirtual 132, 3) := by decide +kernel
theorem dX0_playNotes_83 : decode cX0_playNotes 83 = .ok (.istore_n 3, 1) := by decide +kernel
theorem dX0_playNotes_84 : decode cX0_playNotes 84 = .ok (.aload_n 0, 1) := by decide +kernel
theorem dX0_playNotes_85 : decode cX0_playNotes 85 = .ok (.iload_n 3, 1) := by decide +kernel
theorem dX0_playNotes_86 : decode cX0_playNotes 86 = .ok (.invokevirtual 64, 3) := by decide +kernel
theorem dX0_playNotes_89 : decode cX0_playNotes 89 = .ok (.ifCond .eq 29, 3) := by decide +kernel
theorem dX0_playNotes_92 : decode cX0_playNotes 92 = .ok (.aload_n 0, 1) := by decide +kernel
theorem dX0_playNotes_93 : decode cX0_playNotes 93 = .ok (.iload_n 3, 1) := by decide +kernel
theorem dX0_playNotes_94 : decode cX0_playNotes 94 = .ok (.aload_n 0, 1) := by decide +kernel
theorem dX0_playNotes_95 : decode cX0_playNotes 95 = .ok (.getfield 56, 3) := by decide +kernel
theorem dX0_playNotes_98 : decode cX0_playNotes 98 = .ok (.getfield 126, 3) := by decide +kernel
theorem dX0_playNotes_101 : decode cX0_playNotes 101 = .ok (.iload_n 2, 1) := by decide +kernel
theorem dX0_playNotes_102 : decode cX0_playNotes 102 = .ok (.iaload, 1) := by decide +kernel
theorem dX0_playNotes_103 : decode cX0_playNotes 103 = .ok (.aload_n 0, 1) := by decide +kernel
theorem dX0_playNotes_104 : decode cX0_playNotes 104 = .ok (.getfield 56, 3) := by decide +kernel
theorem dX0_playNotes_107 : decode cX0_playNotes 107 = .ok (.getfield 129, 3) := by decide +kernel
theorem dX0_playNotes_110 : decode cX0_playNotes 110 = .ok (.iload_n 2, 1) := by decide +kernel
theorem dX0_playNotes_111 : decode cX0_playNotes 111 = .ok (.iaload, 1) := by decide +kernel
theorem dX0_playNotes_112 : decode cX0_playNotes 112 = .ok (.invokevirtual 135, 3) := by decide +kernel
theorem dX0_playNotes_115 : decode cX0_playNotes 115 = .ok (.goto 13, 3) := by decide +kernel
theorem dX0_playNotes_118 : decode cX0_playNotes 118 = .ok (.aload_n 0, 1) := by decide +kernel
theorem dX0_playNotes_119 : decode cX0_playNotes 119 = .ok (.dup, 1) := by decide +kernel
theorem dX0_playNotes_120 : decode cX0_playNotes 120 = .ok (.getfield 53, 3) := by decide +kernel
theorem dX0_playNotes_123 : decode cX0_playNotes 123 = .ok (.iconst 1, 1) := by decide +kernel
theorem dX0_playNotes_124 : decode cX0_playNotes 124 = .ok (.iadd, 1) := by decide +kernel
theorem dX0_playNotes_125 : decode cX0_playNotes 125 = .ok (.putfield 53, 3) := by decide +kernel
theorem dX0_playNotes_128 : decode cX0_playNotes 128 = .ok (.iinc 2 1, 3) := by decide +kernel
theorem dX0_playNotes_131 : decode cX0_playNotes 131 = .ok (.goto (-94), 3) := by decide +kernel
theorem dX0_playNotes_134 : decode cX0_playNotes 134 = .ok (.return_, 1) := by decide +kernel
set_option maxRecDepth 20000 in
theorem ggX0_playerFor_X0_hasAir : GoodIn wsX0_playerFor wsX0_hasAir := goodIn_r _ [9, 10, 11, 12, 13, 36, 37, 38, 39, 40, 41, 42, 43, 44, 45, 46, 47, 48, 49, 50] (by decide +kernel) (by decide +kernel)
set_option maxRecDepth 20000 in
theorem gX0_playerFor_X0_hasAir : GoodIn wsX0_playerFor (wsV RX0 139 RX0 yX0_hasAir wsX0_hasAir) := goodIn_app (goodIn_of _ (by decide +kernel)) ggX0_playerFor_X0_hasAir
set_option maxRecDepth 20000 in
theorem ggX0_playerFor_X0_toneOf : GoodIn wsX0_playerFor wsX0_toneOf := goodIn_r _ [17, 18, 19, 20, 21, 22, 23, 24, 25, 26, 8, 27, 1, 28, 29, 30, 31, 32, 33, 36, 37, 38, 39, 40, 41, 42, 43, 44, 45, 46, 47, 48, 49, 50] (by decide +kernel) (by decide +kernel)
set_option maxRecDepth 20000 in
theorem gX0_playerFor_X0_toneOf : GoodIn wsX0_playerFor (wsV RX0 91 RX0 yX0_toneOf wsX0_toneOf) := goodIn_app (goodIn_of _ (by decide +kernel)) ggX0_playerFor_X0_toneOf
set_option maxRecDepth 20000 in
theorem ggX0_playerFor_X2_distance : GoodIn wsX0_playerFor wsX2_distance := goodIn_r _ [35] (by decide +kernel) (by decide +kernel)
set_option maxRecDepth 20000 in
theorem gX0_playerFor_X2_distance_n94 : GoodIn wsX0_playerFor (wsX2_distance) := ggX0_playerFor_X2_distance
theorem dX0_playerFor_0 : decode cX0_playerFor 0 = .ok (.iconst (-1), 1) := by decide +kernel
theorem dX0_playerFor_1 : decode cX0_playerFor 1 = .ok (.istore_n 3, 1) := by decide +kernel
theorem dX0_playerFor_2 : decode cX0_playerFor 2 = .ok (.bipush 7, 2) := by decide +kernel
theorem dX0_playerFor_4 : decode cX0_playerFor 4 = .ok (.istore 4, 2) := by decide +kernel
theorem dX0_playerFor_6 : decode cX0_playerFor 6 = .ok (.iconst 0, 1) := by decide +kernel
theorem dX0_playerFor_7 : decode cX0_playerFor 7 = .ok (.istore 5, 2) := by decide +kernel
theorem dX0_playerFor_9 : decode cX0_playerFor 9 = .ok (.iload 5, 2) := by decide +kernel
theorem dX0_playerFor_11 : decode cX0_playerFor 11 = .ok (.aload_n 0, 1) := by decide +kernel
theorem dX0_playerFor_12 : decode cX0_playerFor 12 = .ok (.getfield 40, 3) := by decide +kernel
theorem dX0_playerFor_15 : decode cX0_playerFor 15 = .ok (.if_icmp .ge 70, 3) := by decide +kernel
theorem dX0_playerFor_18 : decode cX0_playerFor 18 = .ok (.aload_n 0, 1) := by decide +kernel
theorem dX0_playerFor_19 : decode cX0_playerFor 19 = .ok (.getfield 21, 3) := by decide +kernel
theorem dX0_playerFor_22 : decode cX0_playerFor 22 = .ok (.iload 5, 2) := by decide +kernel
theorem dX0_playerFor_24 : decode cX0_playerFor 24 = .ok (.baload, 1) := by decide +kernel
theorem dX0_playerFor_25 : decode cX0_playerFor 25 = .ok (.ifCond .ne 54, 3) := by decide +kernel
theorem dX0_playerFor_28 : decode cX0_playerFor 28 = .ok (.aload_n 0, 1) := by decide +kernel
theorem dX0_playerFor_29 : decode cX0_playerFor 29 = .ok (.getfield 31, 3) := by decide +kernel
theorem dX0_playerFor_32 : decode cX0_playerFor 32 = .ok (.iload 5, 2) := by decide +kernel
theorem dX0_playerFor_34 : decode cX0_playerFor 34 = .ok (.baload, 1) := by decide +kernel
theorem dX0_playerFor_35 : decode cX0_playerFor 35 = .ok (.ifCond .ne 44, 3) := by decide +kernel
theorem dX0_playerFor_38 : decode cX0_playerFor 38 = .ok (.aload_n 0, 1) := by decide +kernel
theorem dX0_playerFor_39 : decode cX0_playerFor 39 = .ok (.aload_n 0, 1) := by decide +kernel
theorem dX0_playerFor_40 : decode cX0_playerFor 40 = .ok (.getfield 9, 3) := by decide +kernel
theorem dX0_playerFor_43 : decode cX0_playerFor 43 = .ok (.iload 5, 2) := by decide +kernel
theorem dX0_playerFor_45 : decode cX0_playerFor 45 = .ok (.iaload, 1) := by decide +kernel
theorem dX0_playerFor_46 : decode cX0_playerFor 46 = .ok (.iload_n 2, 1) := by decide +kernel
theorem dX0_playerFor_47 : decode cX0_playerFor 47 = .ok (.invokevirtual 139, 3) := by decide +kernel
theorem dX0_playerFor_50 : decode cX0_playerFor 50 = .ok (.ifCond .eq 29, 3) := by decide +kernel
theorem dX0_playerFor_53 : decode cX0_playerFor 53 = .ok (.aload_n 0, 1) := by decide +kernel
theorem dX0_playerFor_54 : decode cX0_playerFor 54 = .ok (.iload 5, 2) := by decide +kernel
theorem dX0_playerFor_56 : decode cX0_playerFor 56 = .ok (.invokevirtual 91, 3) := by decide +kernel
theorem dX0_playerFor_59 : decode cX0_playerFor 59 = .ok (.iload_n 1, 1) := by decide +kernel
theorem dX0_playerFor_60 : decode cX0_playerFor 60 = .ok (.invokestatic 94, 3) := by decide +kernel
theorem dX0_playerFor_63 : decode cX0_playerFor 63 = .ok (.istore 6, 2) := by decide +kernel
theorem dX0_playerFor_65 : decode cX0_playerFor 65 = .ok (.iload 6, 2) := by decide +kernel
theorem dX0_playerFor_67 : decode cX0_playerFor 67 = .ok (.iload 4, 2) := by decide +kernel
theorem dX0_playerFor_69 : decode cX0_playerFor 69 = .ok (.if_icmp .ge 10, 3) := by decide +kernel
theorem dX0_playerFor_72 : decode cX0_playerFor 72 = .ok (.iload 6, 2) := by decide +kernel
theorem dX0_playerFor_74 : decode cX0_playerFor 74 = .ok (.istore 4, 2) := by decide +kernel
theorem dX0_playerFor_76 : decode cX0_playerFor 76 = .ok (.iload 5, 2) := by decide +kernel
theorem dX0_playerFor_78 : decode cX0_playerFor 78 = .ok (.istore_n 3, 1) := by decide +kernel
theorem dX0_playerFor_79 : decode cX0_playerFor 79 = .ok (.iinc 5 1, 3) := by decide +kernel
theorem dX0_playerFor_82 : decode cX0_playerFor 82 = .ok (.goto (-73), 3) := by decide +kernel
theorem dX0_playerFor_85 : decode cX0_playerFor 85 = .ok (.iload_n 3, 1) := by decide +kernel
theorem dX0_playerFor_86 : decode cX0_playerFor 86 = .ok (.ireturn, 1) := by decide +kernel
set_option maxRecDepth 20000 in
theorem ggX0_hasAir_X2_isWithin : GoodIn wsX0_hasAir wsX2_isWithin := goodIn_r _ [4] (by decide +kernel) (by decide +kernel)
set_option maxRecDepth 20000 in
theorem gX0_hasAir_X2_isWithin_n60 : GoodIn wsX0_hasAir (wsX2_isWithin) := ggX0_hasAir_X2_isWithin
theorem dX0_hasAir_0 : decode cX0_hasAir 0 = .ok (.iload_n 1, 1) := by decide +kernel
theorem dX0_hasAir_1 : decode cX0_hasAir 1 = .ok (.iconst 0, 1) := by decide +kernel
theorem dX0_hasAir_2 : decode cX0_hasAir 2 = .ok (.iconst 3, 1) := by decide +kernel
theorem dX0_hasAir_3 : decode cX0_hasAir 3 = .ok (.invokestatic 60, 3) := by decide +kernel
theorem dX0_hasAir_6 : decode cX0_hasAir 6 = .ok (.ifCond .eq 17, 3) := by decide +kernel
theorem dX0_hasAir_9 : decode cX0_hasAir 9 = .ok (.aload_n 0, 1) := by decide +kernel
theorem dX0_hasAir_10 : decode cX0_hasAir 10 = .ok (.getfield 34, 3) := by decide +kernel
theorem dX0_hasAir_13 : decode cX0_hasAir 13 = .ok (.iload_n 1, 1) := by decide +kernel
theorem dX0_hasAir_14 : decode cX0_hasAir 14 = .ok (.iaload, 1) := by decide +kernel
theorem dX0_hasAir_15 : decode cX0_hasAir 15 = .ok (.iload_n 2, 1) := by decide +kernel
theorem dX0_hasAir_16 : decode cX0_hasAir 16 = .ok (.if_icmp .lt 7, 3) := by decide +kernel
theorem dX0_hasAir_19 : decode cX0_hasAir 19 = .ok (.iconst 1, 1) := by decide +kernel
theorem dX0_hasAir_20 : decode cX0_hasAir 20 = .ok (.goto 4, 3) := by decide +kernel
theorem dX0_hasAir_23 : decode cX0_hasAir 23 = .ok (.iconst 0, 1) := by decide +kernel
theorem dX0_hasAir_24 : decode cX0_hasAir 24 = .ok (.ireturn, 1) := by decide +kernel
set_option maxRecDepth 20000 in
theorem ggX0_rub_X0_toneOf : GoodIn wsX0_rub wsX0_toneOf := goodIn_r _ [19, 13, 8, 9, 10, 11, 12, 20, 21, 22, 18, 23, 24, 25, 26, 27, 28, 29, 30, 40, 41, 42, 43, 44, 45, 46, 47, 48, 49, 50, 51, 52, 53, 54] (by decide +kernel) (by decide +kernel)
set_option maxRecDepth 20000 in
theorem gX0_rub_X0_toneOf : GoodIn wsX0_rub (wsV RX0 91 RX0 yX0_toneOf wsX0_toneOf) := goodIn_app (goodIn_of _ (by decide +kernel)) ggX0_rub_X0_toneOf
set_option maxRecDepth 20000 in
theorem ggX0_rub_X2_distance : GoodIn wsX0_rub wsX2_distance := goodIn_r _ [33] (by decide +kernel) (by decide +kernel)
set_option maxRecDepth 20000 in
theorem gX0_rub_X2_distance_n94 : GoodIn wsX0_rub (wsX2_distance) := ggX0_rub_X2_distance
set_option maxRecDepth 20000 in
theorem ggX0_rub_X0_hasAir : GoodIn wsX0_rub wsX0_hasAir := goodIn_r _ [37, 4, 38, 32, 39, 40, 41, 42, 43, 44, 45, 46, 47, 48, 49, 50, 51, 52, 53, 54] (by decide +kernel) (by decide +kernel)
set_option maxRecDepth 20000 in
theorem gX0_rub_X0_hasAir : GoodIn wsX0_rub (wsV RX0 139 RX0 yX0_hasAir wsX0_hasAir) := goodIn_app (goodIn_of _ (by decide +kernel)) ggX0_rub_X0_hasAir
theorem dX0_rub_0 : decode cX0_rub 0 = .ok (.aload_n 0, 1) := by decide +kernel
theorem dX0_rub_1 : decode cX0_rub 1 = .ok (.dup, 1) := by decide +kernel
theorem dX0_rub_2 : decode cX0_rub 2 = .ok (.getfield 47, 3) := by decide +kernel
theorem dX0_rub_5 : decode cX0_rub 5 = .ok (.iconst 1, 1) := by decide +kernel
theorem dX0_rub_6 : decode cX0_rub 6 = .ok (.iadd, 1) := by decide +kernel
theorem dX0_rub_7 : decode cX0_rub 7 = .ok (.putfield 47, 3) := by decide +kernel
theorem dX0_rub_10 : decode cX0_rub 10 = .ok (.aload_n 0, 1) := by decide +kernel
theorem dX0_rub_11 : decode cX0_rub 11 = .ok (.iload_n 1, 1) := by decide +kernel
theorem dX0_rub_12 : decode cX0_rub 12 = .ok (.invokevirtual 91, 3) := by decide +kernel
theorem dX0_rub_15 : decode cX0_rub 15 = .ok (.iload_n 2, 1) := by decide +kernel
theorem dX0_rub_16 : decode cX0_rub 16 = .ok (.invokestatic 94, 3) := by decide +kernel
theorem dX0_rub_19 : decode cX0_rub 19 = .ok (.iconst 1, 1) := by decide +kernel
theorem dX0_rub_20 : decode cX0_rub 20 = .ok (.if_icmp .gt 13, 3) := by decide +kernel
theorem dX0_rub_23 : decode cX0_rub 23 = .ok (.aload_n 0, 1) := by decide +kernel
theorem dX0_rub_24 : decode cX0_rub 24 = .ok (.dup, 1) := by decide +kernel
theorem dX0_rub_25 : decode cX0_rub 25 = .ok (.getfield 50, 3) := by decide +kernel
theorem dX0_rub_28 : decode cX0_rub 28 = .ok (.iconst 1, 1) := by decide +kernel
theorem dX0_rub_29 : decode cX0_rub 29 = .ok (.iadd, 1) := by decide +kernel
theorem dX0_rub_30 : decode cX0_rub 30 = .ok (.putfield 50, 3) := by decide +kernel
theorem dX0_rub_33 : decode cX0_rub 33 = .ok (.aload_n 0, 1) := by decide +kernel
theorem dX0_rub_34 : decode cX0_rub 34 = .ok (.getfield 9, 3) := by decide +kernel
theorem dX0_rub_37 : decode cX0_rub 37 = .ok (.iload_n 1, 1) := by decide +kernel
theorem dX0_rub_38 : decode cX0_rub 38 = .ok (.iaload, 1) := by decide +kernel
theorem dX0_rub_39 : decode cX0_rub 39 = .ok (.istore 4, 2) := by decide +kernel
theorem dX0_rub_41 : decode cX0_rub 41 = .ok (.aload_n 0, 1) := by decide +kernel
theorem dX0_rub_42 : decode cX0_rub 42 = .ok (.iload 4, 2) := by decide +kernel
theorem dX0_rub_44 : decode cX0_rub 44 = .ok (.iload_n 3, 1) := by decide +kernel
theorem dX0_rub_45 : decode cX0_rub 45 = .ok (.invokevirtual 139, 3) := by decide +kernel
theorem dX0_rub_48 : decode cX0_rub 48 = .ok (.ifCond .eq 14, 3) := by decide +kernel
theorem dX0_rub_51 : decode cX0_rub 51 = .ok (.aload_n 0, 1) := by decide +kernel
theorem dX0_rub_52 : decode cX0_rub 52 = .ok (.getfield 34, 3) := by decide +kernel
theorem dX0_rub_55 : decode cX0_rub 55 = .ok (.iload 4, 2) := by decide +kernel
theorem dX0_rub_57 : decode cX0_rub 57 = .ok (.dup2, 1) := by decide +kernel
theorem dX0_rub_58 : decode cX0_rub 58 = .ok (.iaload, 1) := by decide +kernel
theorem dX0_rub_59 : decode cX0_rub 59 = .ok (.iload_n 3, 1) := by decide +kernel
theorem dX0_rub_60 : decode cX0_rub 60 = .ok (.isub, 1) := by decide +kernel
theorem dX0_rub_61 : decode cX0_rub 61 = .ok (.iastore, 1) := by decide +kernel
theorem dX0_rub_62 : decode cX0_rub 62 = .ok (.aload_n 0, 1) := by decide +kernel
theorem dX0_rub_63 : decode cX0_rub 63 = .ok (.getfield 31, 3) := by decide +kernel
theorem dX0_rub_66 : decode cX0_rub 66 = .ok (.iload_n 1, 1) := by decide +kernel
theorem dX0_rub_67 : decode cX0_rub 67 = .ok (.iconst 1, 1) := by decide +kernel
theorem dX0_rub_68 : decode cX0_rub 68 = .ok (.bastore, 1) := by decide +kernel
theorem dX0_rub_69 : decode cX0_rub 69 = .ok (.aload_n 0, 1) := by decide +kernel
theorem dX0_rub_70 : decode cX0_rub 70 = .ok (.getfield 28, 3) := by decide +kernel
theorem dX0_rub_73 : decode cX0_rub 73 = .ok (.iload_n 1, 1) := by decide +kernel
theorem dX0_rub_74 : decode cX0_rub 74 = .ok (.dup2, 1) := by decide +kernel
theorem dX0_rub_75 : decode cX0_rub 75 = .ok (.iaload, 1) := by decide +kernel
theorem dX0_rub_76 : decode cX0_rub 76 = .ok (.iconst 1, 1) := by decide +kernel
theorem dX0_rub_77 : decode cX0_rub 77 = .ok (.iadd, 1) := by decide +kernel
theorem dX0_rub_78 : decode cX0_rub 78 = .ok (.iastore, 1) := by decide +kernel
theorem dX0_rub_79 : decode cX0_rub 79 = .ok (.aload_n 0, 1) := by decide +kernel
theorem dX0_rub_80 : decode cX0_rub 80 = .ok (.getfield 25, 3) := by decide +kernel
theorem dX0_rub_83 : decode cX0_rub 83 = .ok (.iload_n 1, 1) := by decide +kernel
theorem dX0_rub_84 : decode cX0_rub 84 = .ok (.bipush 9, 2) := by decide +kernel
theorem dX0_rub_86 : decode cX0_rub 86 = .ok (.iastore, 1) := by decide +kernel
theorem dX0_rub_87 : decode cX0_rub 87 = .ok (.aload_n 0, 1) := by decide +kernel
theorem dX0_rub_88 : decode cX0_rub 88 = .ok (.getfield 18, 3) := by decide +kernel
theorem dX0_rub_91 : decode cX0_rub 91 = .ok (.iload_n 1, 1) := by decide +kernel
theorem dX0_rub_92 : decode cX0_rub 92 = .ok (.iconst 0, 1) := by decide +kernel
theorem dX0_rub_93 : decode cX0_rub 93 = .ok (.aload_n 0, 1) := by decide +kernel
theorem dX0_rub_94 : decode cX0_rub 94 = .ok (.getfield 18, 3) := by decide +kernel
theorem dX0_rub_97 : decode cX0_rub 97 = .ok (.iload_n 1, 1) := by decide +kernel
theorem dX0_rub_98 : decode cX0_rub 98 = .ok (.iaload, 1) := by decide +kernel
theorem dX0_rub_99 : decode cX0_rub 99 = .ok (.iload_n 3, 1) := by decide +kernel
theorem dX0_rub_100 : decode cX0_rub 100 = .ok (.isub, 1) := by decide +kernel
theorem dX0_rub_101 : decode cX0_rub 101 = .ok (.invokestatic 75, 3) := by decide +kernel
theorem dX0_rub_104 : decode cX0_rub 104 = .ok (.iastore, 1) := by decide +kernel
theorem dX0_rub_105 : decode cX0_rub 105 = .ok (.iload_n 3, 1) := by decide +kernel
theorem dX0_rub_106 : decode cX0_rub 106 = .ok (.aload_n 0, 1) := by decide +kernel
theorem dX0_rub_107 : decode cX0_rub 107 = .ok (.getfield 15, 3) := by decide +kernel
theorem dX0_rub_110 : decode cX0_rub 110 = .ok (.iload_n 1, 1) := by decide +kernel
theorem dX0_rub_111 : decode cX0_rub 111 = .ok (.iaload, 1) := by decide +kernel
theorem dX0_rub_112 : decode cX0_rub 112 = .ok (.iconst 3, 1) := by decide +kernel
theorem dX0_rub_113 : decode cX0_rub 113 = .ok (.iadd, 1) := by decide +kernel
theorem dX0_rub_114 : decode cX0_rub 114 = .ok (.if_icmp .le 24, 3) := by decide +kernel
theorem dX0_rub_117 : decode cX0_rub 117 = .ok (.aload_n 0, 1) := by decide +kernel
theorem dX0_rub_118 : decode cX0_rub 118 = .ok (.getfield 21, 3) := by decide +kernel
theorem dX0_rub_121 : decode cX0_rub 121 = .ok (.iload_n 1, 1) := by decide +kernel
theorem dX0_rub_122 : decode cX0_rub 122 = .ok (.iconst 1, 1) := by decide +kernel
theorem dX0_rub_123 : decode cX0_rub 123 = .ok (.bastore, 1) := by decide +kernel
theorem dX0_rub_124 : decode cX0_rub 124 = .ok (.aload_n 0, 1) := by decide +kernel
theorem dX0_rub_125 : decode cX0_rub 125 = .ok (.getfield 18, 3) := by decide +kernel
theorem dX0_rub_128 : decode cX0_rub 128 = .ok (.iload_n 1, 1) := by decide +kernel
theorem dX0_rub_129 : decode cX0_rub 129 = .ok (.iconst 0, 1) := by decide +kernel
theorem dX0_rub_130 : decode cX0_rub 130 = .ok (.iastore, 1) := by decide +kernel
theorem dX0_rub_131 : decode cX0_rub 131 = .ok (.aload_n 0, 1) := by decide +kernel
theorem dX0_rub_132 : decode cX0_rub 132 = .ok (.getfield 25, 3) := by decide +kernel
theorem dX0_rub_135 : decode cX0_rub 135 = .ok (.iload_n 1, 1) := by decide +kernel
theorem dX0_rub_136 : decode cX0_rub 136 = .ok (.iconst 0, 1) := by decide +kernel
theorem dX0_rub_137 : decode cX0_rub 137 = .ok (.iastore, 1) := by decide +kernel
theorem dX0_rub_138 : decode cX0_rub 138 = .ok (.return_, 1) := by decide +kernel
theorem dX0_fadeAndDry_0 : decode cX0_fadeAndDry 0 = .ok (.aload_n 0, 1) := by decide +kernel
theorem dX0_fadeAndDry_1 : decode cX0_fadeAndDry 1 = .ok (.getfield 44, 3) := by decide +kernel
theorem dX0_fadeAndDry_4 : decode cX0_fadeAndDry 4 = .ok (.bipush 8, 2) := by decide +kernel
theorem dX0_fadeAndDry_6 : decode cX0_fadeAndDry 6 = .ok (.irem, 1) := by decide +kernel
theorem dX0_fadeAndDry_7 : decode cX0_fadeAndDry 7 = .ok (.ifCond .ne 7, 3) := by decide +kernel
theorem dX0_fadeAndDry_10 : decode cX0_fadeAndDry 10 = .ok (.iconst 1, 1) := by decide +kernel
theorem dX0_fadeAndDry_11 : decode cX0_fadeAndDry 11 = .ok (.goto 4, 3) := by decide +kernel
theorem dX0_fadeAndDry_14 : decode cX0_fadeAndDry 14 = .ok (.iconst 0, 1) := by decide +kernel
theorem dX0_fadeAndDry_15 : decode cX0_fadeAndDry 15 = .ok (.istore_n 1, 1) := by decide +kernel
theorem dX0_fadeAndDry_16 : decode cX0_fadeAndDry 16 = .ok (.iconst 0, 1) := by decide +kernel
theorem dX0_fadeAndDry_17 : decode cX0_fadeAndDry 17 = .ok (.istore_n 2, 1) := by decide +kernel
theorem dX0_fadeAndDry_18 : decode cX0_fadeAndDry 18 = .ok (.iload_n 2, 1) := by decide +kernel
theorem dX0_fadeAndDry_19 : decode cX0_fadeAndDry 19 = .ok (.aload_n 0, 1) := by decide +kernel
theorem dX0_fadeAndDry_20 : decode cX0_fadeAndDry 20 = .ok (.getfield 40, 3) := by decide +kernel
theorem dX0_fadeAndDry_23 : decode cX0_fadeAndDry 23 = .ok (.if_icmp .ge 58, 3) := by decide +kernel
theorem dX0_fadeAndDry_26 : decode cX0_fadeAndDry 26 = .ok (.aload_n 0, 1) := by decide +kernel
theorem dX0_fadeAndDry_27 : decode cX0_fadeAndDry 27 = .ok (.getfield 31, 3) := by decide +kernel
theorem dX0_fadeAndDry_30 : decode cX0_fadeAndDry 30 = .ok (.iload_n 2, 1) := by decide +kernel
theorem dX0_fadeAndDry_31 : decode cX0_fadeAndDry 31 = .ok (.baload, 1) := by decide +kernel
theorem dX0_fadeAndDry_32 : decode cX0_fadeAndDry 32 = .ok (.ifCond .ne 21, 3) := by decide +kernel
theorem dX0_fadeAndDry_35 : decode cX0_fadeAndDry 35 = .ok (.aload_n 0, 1) := by decide +kernel
theorem dX0_fadeAndDry_36 : decode cX0_fadeAndDry 36 = .ok (.getfield 25, 3) := by decide +kernel
theorem dX0_fadeAndDry_39 : decode cX0_fadeAndDry 39 = .ok (.iload_n 2, 1) := by decide +kernel
theorem dX0_fadeAndDry_40 : decode cX0_fadeAndDry 40 = .ok (.iconst 0, 1) := by decide +kernel
theorem dX0_fadeAndDry_41 : decode cX0_fadeAndDry 41 = .ok (.aload_n 0, 1) := by decide +kernel
theorem dX0_fadeAndDry_42 : decode cX0_fadeAndDry 42 = .ok (.getfield 25, 3) := by decide +kernel
theorem dX0_fadeAndDry_45 : decode cX0_fadeAndDry 45 = .ok (.iload_n 2, 1) := by decide +kernel
theorem dX0_fadeAndDry_46 : decode cX0_fadeAndDry 46 = .ok (.iaload, 1) := by decide +kernel
theorem dX0_fadeAndDry_47 : decode cX0_fadeAndDry 47 = .ok (.iconst 1, 1) := by decide +kernel
theorem dX0_fadeAndDry_48 : decode cX0_fadeAndDry 48 = .ok (.isub, 1) := by decide +kernel
theorem dX0_fadeAndDry_49 : decode cX0_fadeAndDry 49 = .ok (.invokestatic 75, 3) := by decide +kernel
theorem dX0_fadeAndDry_52 : decode cX0_fadeAndDry 52 = .ok (.iastore, 1) := by decide +kernel
theorem dX0_fadeAndDry_53 : decode cX0_fadeAndDry 53 = .ok (.iload_n 1, 1) := by decide +kernel
theorem dX0_fadeAndDry_54 : decode cX0_fadeAndDry 54 = .ok (.ifCond .eq 21, 3) := by decide +kernel
theorem dX0_fadeAndDry_57 : decode cX0_fadeAndDry 57 = .ok (.aload_n 0, 1) := by decide +kernel
theorem dX0_fadeAndDry_58 : decode cX0_fadeAndDry 58 = .ok (.getfield 18, 3) := by decide +kernel
theorem dX0_fadeAndDry_61 : decode cX0_fadeAndDry 61 = .ok (.iload_n 2, 1) := by decide +kernel
theorem dX0_fadeAndDry_62 : decode cX0_fadeAndDry 62 = .ok (.iconst 0, 1) := by decide +kernel
theorem dX0_fadeAndDry_63 : decode cX0_fadeAndDry 63 = .ok (.aload_n 0, 1) := by decide +kernel
theorem dX0_fadeAndDry_64 : decode cX0_fadeAndDry 64 = .ok (.getfield 18, 3) := by decide +kernel
theorem dX0_fadeAndDry_67 : decode cX0_fadeAndDry 67 = .ok (.iload_n 2, 1) := by decide +kernel
theorem dX0_fadeAndDry_68 : decode cX0_fadeAndDry 68 = .ok (.iaload, 1) := by decide +kernel
theorem dX0_fadeAndDry_69 : decode cX0_fadeAndDry 69 = .ok (.iconst 1, 1) := by decide +kernel
theorem dX0_fadeAndDry_70 : decode cX0_fadeAndDry 70 = .ok (.isub, 1) := by decide +kernel
theorem dX0_fadeAndDry_71 : decode cX0_fadeAndDry 71 = .ok (.invokestatic 75, 3) := by decide +kernel
theorem dX0_fadeAndDry_74 : decode cX0_fadeAndDry 74 = .ok (.iastore, 1) := by decide +kernel
theorem dX0_fadeAndDry_75 : decode cX0_fadeAndDry 75 = .ok (.iinc 2 1, 3) := by decide +kernel
theorem dX0_fadeAndDry_78 : decode cX0_fadeAndDry 78 = .ok (.goto (-60), 3) := by decide +kernel
theorem dX0_fadeAndDry_81 : decode cX0_fadeAndDry 81 = .ok (.return_, 1) := by decide +kernel
