theorem dX3_init_0 : decode cX3_init 0 = .ok (.aload_n 0, 1) := by decide +kernel
theorem dX3_init_1 : decode cX3_init 1 = .ok (.aload_n 1, 1) := by decide +kernel
theorem dX3_init_2 : decode cX3_init 2 = .ok (.putfield 3, 3) := by decide +kernel
theorem dX3_init_5 : decode cX3_init 5 = .ok (.aload_n 0, 1) := by decide +kernel
theorem dX3_init_6 : decode cX3_init 6 = .ok (.invokespecial 9, 3) := by decide +kernel
theorem dX3_init_9 : decode cX3_init 9 = .ok (.aload_n 0, 1) := by decide +kernel
theorem dX3_init_10 : decode cX3_init 10 = .ok (.iconst 4, 1) := by decide +kernel
theorem dX3_init_11 : decode cX3_init 11 = .ok (.newarray .int, 2) := by decide +kernel
theorem dX3_init_13 : decode cX3_init 13 = .ok (.dup, 1) := by decide +kernel
theorem dX3_init_14 : decode cX3_init 14 = .ok (.iconst 0, 1) := by decide +kernel
theorem dX3_init_15 : decode cX3_init 15 = .ok (.bipush 30, 2) := by decide +kernel
theorem dX3_init_17 : decode cX3_init 17 = .ok (.iastore, 1) := by decide +kernel
theorem dX3_init_18 : decode cX3_init 18 = .ok (.dup, 1) := by decide +kernel
theorem dX3_init_19 : decode cX3_init 19 = .ok (.iconst 1, 1) := by decide +kernel
theorem dX3_init_20 : decode cX3_init 20 = .ok (.bipush 30, 2) := by decide +kernel
theorem dX3_init_22 : decode cX3_init 22 = .ok (.iastore, 1) := by decide +kernel
theorem dX3_init_23 : decode cX3_init 23 = .ok (.dup, 1) := by decide +kernel
theorem dX3_init_24 : decode cX3_init 24 = .ok (.iconst 2, 1) := by decide +kernel
theorem dX3_init_25 : decode cX3_init 25 = .ok (.bipush 30, 2) := by decide +kernel
theorem dX3_init_27 : decode cX3_init 27 = .ok (.iastore, 1) := by decide +kernel
theorem dX3_init_28 : decode cX3_init 28 = .ok (.dup, 1) := by decide +kernel
theorem dX3_init_29 : decode cX3_init 29 = .ok (.iconst 3, 1) := by decide +kernel
theorem dX3_init_30 : decode cX3_init 30 = .ok (.bipush 30, 2) := by decide +kernel
theorem dX3_init_32 : decode cX3_init 32 = .ok (.iastore, 1) := by decide +kernel
theorem dX3_init_33 : decode cX3_init 33 = .ok (.putfield 15, 3) := by decide +kernel
theorem dX3_init_36 : decode cX3_init 36 = .ok (.aload_n 0, 1) := by decide +kernel
theorem dX3_init_37 : decode cX3_init 37 = .ok (.iconst 4, 1) := by decide +kernel
theorem dX3_init_38 : decode cX3_init 38 = .ok (.newarray .int, 2) := by decide +kernel
theorem dX3_init_40 : decode cX3_init 40 = .ok (.dup, 1) := by decide +kernel
theorem dX3_init_41 : decode cX3_init 41 = .ok (.iconst 0, 1) := by decide +kernel
theorem dX3_init_42 : decode cX3_init 42 = .ok (.iconst 3, 1) := by decide +kernel
theorem dX3_init_43 : decode cX3_init 43 = .ok (.iastore, 1) := by decide +kernel
theorem dX3_init_44 : decode cX3_init 44 = .ok (.dup, 1) := by decide +kernel
theorem dX3_init_45 : decode cX3_init 45 = .ok (.iconst 1, 1) := by decide +kernel
theorem dX3_init_46 : decode cX3_init 46 = .ok (.iconst 3, 1) := by decide +kernel
theorem dX3_init_47 : decode cX3_init 47 = .ok (.iastore, 1) := by decide +kernel
theorem dX3_init_48 : decode cX3_init 48 = .ok (.dup, 1) := by decide +kernel
theorem dX3_init_49 : decode cX3_init 49 = .ok (.iconst 2, 1) := by decide +kernel
theorem dX3_init_50 : decode cX3_init 50 = .ok (.iconst 3, 1) := by decide +kernel
theorem dX3_init_51 : decode cX3_init 51 = .ok (.iastore, 1) := by decide +kernel
theorem dX3_init_52 : decode cX3_init 52 = .ok (.dup, 1) := by decide +kernel
theorem dX3_init_53 : decode cX3_init 53 = .ok (.iconst 3, 1) := by decide +kernel
theorem dX3_init_54 : decode cX3_init 54 = .ok (.iconst 3, 1) := by decide +kernel
theorem dX3_init_55 : decode cX3_init 55 = .ok (.iastore, 1) := by decide +kernel
theorem dX3_init_56 : decode cX3_init 56 = .ok (.putfield 19, 3) := by decide +kernel
theorem dX3_init_59 : decode cX3_init 59 = .ok (.aload_n 0, 1) := by decide +kernel
theorem dX3_init_60 : decode cX3_init 60 = .ok (.bipush 16, 2) := by decide +kernel
theorem dX3_init_62 : decode cX3_init 62 = .ok (.newarray .int, 2) := by decide +kernel
theorem dX3_init_64 : decode cX3_init 64 = .ok (.putfield 22, 3) := by decide +kernel
theorem dX3_init_67 : decode cX3_init 67 = .ok (.aload_n 0, 1) := by decide +kernel
theorem dX3_init_68 : decode cX3_init 68 = .ok (.bipush 16, 2) := by decide +kernel
theorem dX3_init_70 : decode cX3_init 70 = .ok (.newarray .int, 2) := by decide +kernel
theorem dX3_init_72 : decode cX3_init 72 = .ok (.putfield 25, 3) := by decide +kernel
theorem dX3_init_75 : decode cX3_init 75 = .ok (.aload_n 0, 1) := by decide +kernel
theorem dX3_init_76 : decode cX3_init 76 = .ok (.bipush 16, 2) := by decide +kernel
theorem dX3_init_78 : decode cX3_init 78 = .ok (.newarray .int, 2) := by decide +kernel
theorem dX3_init_80 : decode cX3_init 80 = .ok (.putfield 28, 3) := by decide +kernel
theorem dX3_init_83 : decode cX3_init 83 = .ok (.aload_n 0, 1) := by decide +kernel
theorem dX3_init_84 : decode cX3_init 84 = .ok (.bipush 16, 2) := by decide +kernel
theorem dX3_init_86 : decode cX3_init 86 = .ok (.newarray .int, 2) := by decide +kernel
theorem dX3_init_88 : decode cX3_init 88 = .ok (.putfield 31, 3) := by decide +kernel
theorem dX3_init_91 : decode cX3_init 91 = .ok (.return_, 1) := by decide +kernel
theorem dX3_copy_0 : decode cX3_copy 0 = .ok (.aload_n 1, 1) := by decide +kernel
theorem dX3_copy_1 : decode cX3_copy 1 = .ok (.iconst 0, 1) := by decide +kernel
theorem dX3_copy_2 : decode cX3_copy 2 = .ok (.aload_n 2, 1) := by decide +kernel
theorem dX3_copy_3 : decode cX3_copy 3 = .ok (.iconst 0, 1) := by decide +kernel
theorem dX3_copy_4 : decode cX3_copy 4 = .ok (.aload_n 1, 1) := by decide +kernel
theorem dX3_copy_5 : decode cX3_copy 5 = .ok (.arraylength, 1) := by decide +kernel
theorem dX3_copy_6 : decode cX3_copy 6 = .ok (.invokestatic 34, 3) := by decide +kernel
theorem dX3_copy_9 : decode cX3_copy 9 = .ok (.return_, 1) := by decide +kernel
set_option maxRecDepth 20000 in
theorem ggX3_become_X3_copy : GoodIn wsX3_become wsX3_copy := goodIn_r _ [15, 16, 17, 18, 19] (by decide +kernel) (by decide +kernel)
set_option maxRecDepth 20000 in
theorem gX3_become_X3_copy : GoodIn wsX3_become (wsV RX3 53 RX3 yX3_copy wsX3_copy) := goodIn_app (goodIn_of _ (by decide +kernel)) ggX3_become_X3_copy
theorem dX3_become_0 : decode cX3_become 0 = .ok (.aload_n 0, 1) := by decide +kernel
theorem dX3_become_1 : decode cX3_become 1 = .ok (.aload_n 1, 1) := by decide +kernel
theorem dX3_become_2 : decode cX3_become 2 = .ok (.getfield 40, 3) := by decide +kernel
theorem dX3_become_5 : decode cX3_become 5 = .ok (.putfield 40, 3) := by decide +kernel
theorem dX3_become_8 : decode cX3_become 8 = .ok (.aload_n 0, 1) := by decide +kernel
theorem dX3_become_9 : decode cX3_become 9 = .ok (.aload_n 1, 1) := by decide +kernel
theorem dX3_become_10 : decode cX3_become 10 = .ok (.getfield 44, 3) := by decide +kernel
theorem dX3_become_13 : decode cX3_become 13 = .ok (.putfield 44, 3) := by decide +kernel
theorem dX3_become_16 : decode cX3_become 16 = .ok (.aload_n 0, 1) := by decide +kernel
theorem dX3_become_17 : decode cX3_become 17 = .ok (.aload_n 1, 1) := by decide +kernel
theorem dX3_become_18 : decode cX3_become 18 = .ok (.getfield 47, 3) := by decide +kernel
theorem dX3_become_21 : decode cX3_become 21 = .ok (.putfield 47, 3) := by decide +kernel
theorem dX3_become_24 : decode cX3_become 24 = .ok (.aload_n 0, 1) := by decide +kernel
theorem dX3_become_25 : decode cX3_become 25 = .ok (.aload_n 1, 1) := by decide +kernel
theorem dX3_become_26 : decode cX3_become 26 = .ok (.getfield 50, 3) := by decide +kernel
theorem dX3_become_29 : decode cX3_become 29 = .ok (.putfield 50, 3) := by decide +kernel
theorem dX3_become_32 : decode cX3_become 32 = .ok (.aload_n 0, 1) := by decide +kernel
theorem dX3_become_33 : decode cX3_become 33 = .ok (.aload_n 1, 1) := by decide +kernel
theorem dX3_become_34 : decode cX3_become 34 = .ok (.getfield 15, 3) := by decide +kernel
theorem dX3_become_37 : decode cX3_become 37 = .ok (.aload_n 0, 1) := by decide +kernel
theorem dX3_become_38 : decode cX3_become 38 = .ok (.getfield 15, 3) := by decide +kernel
theorem dX3_become_41 : decode cX3_become 41 = .ok (.invokevirtual 53, 3) := by decide +kernel
theorem dX3_become_44 : decode cX3_become 44 = .ok (.aload_n 0, 1) := by decide +kernel
theorem dX3_become_45 : decode cX3_become 45 = .ok (.aload_n 1, 1) := by decide +kernel
theorem dX3_become_46 : decode cX3_become 46 = .ok (.getfield 19, 3) := by decide +kernel
theorem dX3_become_49 : decode cX3_become 49 = .ok (.aload_n 0, 1) := by decide +kernel
theorem dX3_become_50 : decode cX3_become 50 = .ok (.getfield 19, 3) := by decide +kernel
theorem dX3_become_53 : decode cX3_become 53 = .ok (.invokevirtual 53, 3) := by decide +kernel
theorem dX3_become_56 : decode cX3_become 56 = .ok (.aload_n 0, 1) := by decide +kernel
theorem dX3_become_57 : decode cX3_become 57 = .ok (.aload_n 1, 1) := by decide +kernel
theorem dX3_become_58 : decode cX3_become 58 = .ok (.getfield 22, 3) := by decide +kernel
theorem dX3_become_61 : decode cX3_become 61 = .ok (.aload_n 0, 1) := by decide +kernel
theorem dX3_become_62 : decode cX3_become 62 = .ok (.getfield 22, 3) := by decide +kernel
theorem dX3_become_65 : decode cX3_become 65 = .ok (.invokevirtual 53, 3) := by decide +kernel
theorem dX3_become_68 : decode cX3_become 68 = .ok (.aload_n 0, 1) := by decide +kernel
theorem dX3_become_69 : decode cX3_become 69 = .ok (.aload_n 1, 1) := by decide +kernel
theorem dX3_become_70 : decode cX3_become 70 = .ok (.getfield 25, 3) := by decide +kernel
theorem dX3_become_73 : decode cX3_become 73 = .ok (.aload_n 0, 1) := by decide +kernel
theorem dX3_become_74 : decode cX3_become 74 = .ok (.getfield 25, 3) := by decide +kernel
theorem dX3_become_77 : decode cX3_become 77 = .ok (.invokevirtual 53, 3) := by decide +kernel
theorem dX3_become_80 : decode cX3_become 80 = .ok (.aload_n 0, 1) := by decide +kernel
theorem dX3_become_81 : decode cX3_become 81 = .ok (.aload_n 1, 1) := by decide +kernel
theorem dX3_become_82 : decode cX3_become 82 = .ok (.getfield 28, 3) := by decide +kernel
theorem dX3_become_85 : decode cX3_become 85 = .ok (.aload_n 0, 1) := by decide +kernel
theorem dX3_become_86 : decode cX3_become 86 = .ok (.getfield 28, 3) := by decide +kernel
theorem dX3_become_89 : decode cX3_become 89 = .ok (.invokevirtual 53, 3) := by decide +kernel
theorem dX3_become_92 : decode cX3_become 92 = .ok (.aload_n 0, 1) := by decide +kernel
theorem dX3_become_93 : decode cX3_become 93 = .ok (.aload_n 1, 1) := by decide +kernel
theorem dX3_become_94 : decode cX3_become 94 = .ok (.getfield 31, 3) := by decide +kernel
theorem dX3_become_97 : decode cX3_become 97 = .ok (.aload_n 0, 1) := by decide +kernel
theorem dX3_become_98 : decode cX3_become 98 = .ok (.getfield 31, 3) := by decide +kernel
theorem dX3_become_101 : decode cX3_become 101 = .ok (.invokevirtual 53, 3) := by decide +kernel
theorem dX3_become_104 : decode cX3_become 104 = .ok (.return_, 1) := by decide +kernel
theorem dX3_tone_0 : decode cX3_tone 0 = .ok (.iconst 0, 1) := by decide +kernel
theorem dX3_tone_1 : decode cX3_tone 1 = .ok (.bipush 120, 2) := by decide +kernel
theorem dX3_tone_3 : decode cX3_tone 3 = .ok (.bipush 8, 2) := by decide +kernel
theorem dX3_tone_5 : decode cX3_tone 5 = .ok (.aload_n 0, 1) := by decide +kernel
theorem dX3_tone_6 : decode cX3_tone 6 = .ok (.getfield 3, 3) := by decide +kernel
theorem dX3_tone_9 : decode cX3_tone 9 = .ok (.getfield 57, 3) := by decide +kernel
theorem dX3_tone_12 : decode cX3_tone 12 = .ok (.iload_n 1, 1) := by decide +kernel
theorem dX3_tone_13 : decode cX3_tone 13 = .ok (.iaload, 1) := by decide +kernel
theorem dX3_tone_14 : decode cX3_tone 14 = .ok (.imul, 1) := by decide +kernel
theorem dX3_tone_15 : decode cX3_tone 15 = .ok (.isub, 1) := by decide +kernel
theorem dX3_tone_16 : decode cX3_tone 16 = .ok (.aload_n 0, 1) := by decide +kernel
theorem dX3_tone_17 : decode cX3_tone 17 = .ok (.getfield 22, 3) := by decide +kernel
theorem dX3_tone_20 : decode cX3_tone 20 = .ok (.iload_n 1, 1) := by decide +kernel
theorem dX3_tone_21 : decode cX3_tone 21 = .ok (.iaload, 1) := by decide +kernel
theorem dX3_tone_22 : decode cX3_tone 22 = .ok (.iconst 4, 1) := by decide +kernel
theorem dX3_tone_23 : decode cX3_tone 23 = .ok (.aload_n 0, 1) := by decide +kernel
theorem dX3_tone_24 : decode cX3_tone 24 = .ok (.getfield 3, 3) := by decide +kernel
theorem dX3_tone_27 : decode cX3_tone 27 = .ok (.getfield 57, 3) := by decide +kernel
theorem dX3_tone_30 : decode cX3_tone 30 = .ok (.iload_n 1, 1) := by decide +kernel
theorem dX3_tone_31 : decode cX3_tone 31 = .ok (.iaload, 1) := by decide +kernel
theorem dX3_tone_32 : decode cX3_tone 32 = .ok (.imul, 1) := by decide +kernel
theorem dX3_tone_33 : decode cX3_tone 33 = .ok (.idiv, 1) := by decide +kernel
theorem dX3_tone_34 : decode cX3_tone 34 = .ok (.isub, 1) := by decide +kernel
theorem dX3_tone_35 : decode cX3_tone 35 = .ok (.invokestatic 60, 3) := by decide +kernel
theorem dX3_tone_38 : decode cX3_tone 38 = .ok (.ireturn, 1) := by decide +kernel
set_option maxRecDepth 20000 in
theorem ggX3_off_X3_tone : GoodIn wsX3_off wsX3_tone := goodIn_r _ [9, 10, 11, 12, 13, 3, 14, 15, 16, 17, 18, 19, 20, 21, 22, 23, 24, 25, 26, 27, 28, 29, 30, 31, 32, 33, 34, 35] (by decide +kernel) (by decide +kernel)
set_option maxRecDepth 20000 in
theorem gX3_off_X3_tone : GoodIn wsX3_off (wsV RX3 66 RX3 yX3_tone wsX3_tone) := goodIn_app (goodIn_of _ (by decide +kernel)) ggX3_off_X3_tone
theorem dX3_off_0 : decode cX3_off 0 = .ok (.aload_n 0, 1) := by decide +kernel
theorem dX3_off_1 : decode cX3_off 1 = .ok (.iload_n 1, 1) := by decide +kernel
theorem dX3_off_2 : decode cX3_off 2 = .ok (.invokevirtual 66, 3) := by decide +kernel
theorem dX3_off_5 : decode cX3_off 5 = .ok (.iload_n 2, 1) := by decide +kernel
theorem dX3_off_6 : decode cX3_off 6 = .ok (.isub, 1) := by decide +kernel
theorem dX3_off_7 : decode cX3_off 7 = .ok (.invokestatic 70, 3) := by decide +kernel
theorem dX3_off_10 : decode cX3_off 10 = .ok (.ireturn, 1) := by decide +kernel
set_option maxRecDepth 20000 in
theorem ggX3_come_X3_off : GoodIn wsX3_come wsX3_off := goodIn_r _ [19, 20, 21, 13, 22, 23, 24, 25, 18, 26, 1, 10, 11, 12, 14, 27, 28, 29, 30, 31, 32, 33, 34, 35, 36, 37, 38, 39, 40, 41, 42, 43, 44, 45, 46, 47] (by decide +kernel) (by decide +kernel)
set_option maxRecDepth 20000 in
theorem gX3_come_X3_off : GoodIn wsX3_come (wsV RX3 82 RX3 yX3_off wsX3_off) := goodIn_app (goodIn_of _ (by decide +kernel)) ggX3_come_X3_off
theorem dX3_come_0 : decode cX3_come 0 = .ok (.iconst (-1), 1) := by decide +kernel
theorem dX3_come_1 : decode cX3_come 1 = .ok (.istore_n 3, 1) := by decide +kernel
theorem dX3_come_2 : decode cX3_come 2 = .ok (.iconst 0, 1) := by decide +kernel
theorem dX3_come_3 : decode cX3_come 3 = .ok (.istore 4, 2) := by decide +kernel
theorem dX3_come_5 : decode cX3_come 5 = .ok (.iload 4, 2) := by decide +kernel
theorem dX3_come_7 : decode cX3_come 7 = .ok (.aload_n 0, 1) := by decide +kernel
theorem dX3_come_8 : decode cX3_come 8 = .ok (.getfield 3, 3) := by decide +kernel
theorem dX3_come_11 : decode cX3_come 11 = .ok (.getfield 73, 3) := by decide +kernel
theorem dX3_come_14 : decode cX3_come 14 = .ok (.if_icmp .ge 91, 3) := by decide +kernel
theorem dX3_come_17 : decode cX3_come 17 = .ok (.aload_n 0, 1) := by decide +kernel
theorem dX3_come_18 : decode cX3_come 18 = .ok (.getfield 25, 3) := by decide +kernel
theorem dX3_come_21 : decode cX3_come 21 = .ok (.iload 4, 2) := by decide +kernel
theorem dX3_come_23 : decode cX3_come 23 = .ok (.iaload, 1) := by decide +kernel
theorem dX3_come_24 : decode cX3_come 24 = .ok (.iconst 1, 1) := by decide +kernel
theorem dX3_come_25 : decode cX3_come 25 = .ok (.if_icmp .eq 74, 3) := by decide +kernel
theorem dX3_come_28 : decode cX3_come 28 = .ok (.aload_n 0, 1) := by decide +kernel
theorem dX3_come_29 : decode cX3_come 29 = .ok (.getfield 76, 3) := by decide +kernel
theorem dX3_come_32 : decode cX3_come 32 = .ok (.iload 4, 2) := by decide +kernel
theorem dX3_come_34 : decode cX3_come 34 = .ok (.ishr, 1) := by decide +kernel
theorem dX3_come_35 : decode cX3_come 35 = .ok (.iconst 1, 1) := by decide +kernel
theorem dX3_come_36 : decode cX3_come 36 = .ok (.iand, 1) := by decide +kernel
theorem dX3_come_37 : decode cX3_come 37 = .ok (.iconst 1, 1) := by decide +kernel
theorem dX3_come_38 : decode cX3_come 38 = .ok (.if_icmp .eq 61, 3) := by decide +kernel
theorem dX3_come_41 : decode cX3_come 41 = .ok (.aload_n 0, 1) := by decide +kernel
theorem dX3_come_42 : decode cX3_come 42 = .ok (.getfield 15, 3) := by decide +kernel
theorem dX3_come_45 : decode cX3_come 45 = .ok (.aload_n 0, 1) := by decide +kernel
theorem dX3_come_46 : decode cX3_come 46 = .ok (.getfield 3, 3) := by decide +kernel
theorem dX3_come_49 : decode cX3_come 49 = .ok (.getfield 79, 3) := by decide +kernel
theorem dX3_come_52 : decode cX3_come 52 = .ok (.iload 4, 2) := by decide +kernel
theorem dX3_come_54 : decode cX3_come 54 = .ok (.iaload, 1) := by decide +kernel
theorem dX3_come_55 : decode cX3_come 55 = .ok (.iaload, 1) := by decide +kernel
theorem dX3_come_56 : decode cX3_come 56 = .ok (.iload_n 2, 1) := by decide +kernel
theorem dX3_come_57 : decode cX3_come 57 = .ok (.if_icmp .lt 42, 3) := by decide +kernel
theorem dX3_come_60 : decode cX3_come 60 = .ok (.aload_n 0, 1) := by decide +kernel
theorem dX3_come_61 : decode cX3_come 61 = .ok (.iload 4, 2) := by decide +kernel
theorem dX3_come_63 : decode cX3_come 63 = .ok (.iload_n 1, 1) := by decide +kernel
theorem dX3_come_64 : decode cX3_come 64 = .ok (.invokevirtual 82, 3) := by decide +kernel
theorem dX3_come_67 : decode cX3_come 67 = .ok (.bipush 6, 2) := by decide +kernel
theorem dX3_come_69 : decode cX3_come 69 = .ok (.if_icmp .le 6, 3) := by decide +kernel
theorem dX3_come_72 : decode cX3_come 72 = .ok (.goto 27, 3) := by decide +kernel
theorem dX3_come_75 : decode cX3_come 75 = .ok (.iload_n 3, 1) := by decide +kernel
theorem dX3_come_76 : decode cX3_come 76 = .ok (.iconst (-1), 1) := by decide +kernel
theorem dX3_come_77 : decode cX3_come 77 = .ok (.if_icmp .eq 19, 3) := by decide +kernel
theorem dX3_come_80 : decode cX3_come 80 = .ok (.aload_n 0, 1) := by decide +kernel
theorem dX3_come_81 : decode cX3_come 81 = .ok (.iload 4, 2) := by decide +kernel
theorem dX3_come_83 : decode cX3_come 83 = .ok (.iload_n 1, 1) := by decide +kernel
theorem dX3_come_84 : decode cX3_come 84 = .ok (.invokevirtual 82, 3) := by decide +kernel
theorem dX3_come_87 : decode cX3_come 87 = .ok (.aload_n 0, 1) := by decide +kernel
theorem dX3_come_88 : decode cX3_come 88 = .ok (.iload_n 3, 1) := by decide +kernel
theorem dX3_come_89 : decode cX3_come 89 = .ok (.iload_n 1, 1) := by decide +kernel
theorem dX3_come_90 : decode cX3_come 90 = .ok (.invokevirtual 82, 3) := by decide +kernel
theorem dX3_come_93 : decode cX3_come 93 = .ok (.if_icmp .ge 6, 3) := by decide +kernel
theorem dX3_come_96 : decode cX3_come 96 = .ok (.iload 4, 2) := by decide +kernel
theorem dX3_come_98 : decode cX3_come 98 = .ok (.istore_n 3, 1) := by decide +kernel
theorem dX3_come_99 : decode cX3_come 99 = .ok (.iinc 4 1, 3) := by decide +kernel
theorem dX3_come_102 : decode cX3_come 102 = .ok (.goto (-97), 3) := by decide +kernel
theorem dX3_come_105 : decode cX3_come 105 = .ok (.iload_n 3, 1) := by decide +kernel
theorem dX3_come_106 : decode cX3_come 106 = .ok (.iconst (-1), 1) := by decide +kernel
theorem dX3_come_107 : decode cX3_come 107 = .ok (.if_icmp .ne 14, 3) := by decide +kernel
theorem dX3_come_110 : decode cX3_come 110 = .ok (.aload_n 0, 1) := by decide +kernel
theorem dX3_come_111 : decode cX3_come 111 = .ok (.dup, 1) := by decide +kernel
theorem dX3_come_112 : decode cX3_come 112 = .ok (.getfield 50, 3) := by decide +kernel
theorem dX3_come_115 : decode cX3_come 115 = .ok (.iconst 1, 1) := by decide +kernel
theorem dX3_come_116 : decode cX3_come 116 = .ok (.iadd, 1) := by decide +kernel
theorem dX3_come_117 : decode cX3_come 117 = .ok (.putfield 50, 3) := by decide +kernel
theorem dX3_come_120 : decode cX3_come 120 = .ok (.return_, 1) := by decide +kernel
theorem dX3_come_121 : decode cX3_come 121 = .ok (.aload_n 0, 1) := by decide +kernel
theorem dX3_come_122 : decode cX3_come 122 = .ok (.dup, 1) := by decide +kernel
theorem dX3_come_123 : decode cX3_come 123 = .ok (.getfield 44, 3) := by decide +kernel
theorem dX3_come_126 : decode cX3_come 126 = .ok (.iconst 1, 1) := by decide +kernel
theorem dX3_come_127 : decode cX3_come 127 = .ok (.iadd, 1) := by decide +kernel
theorem dX3_come_128 : decode cX3_come 128 = .ok (.putfield 44, 3) := by decide +kernel
theorem dX3_come_131 : decode cX3_come 131 = .ok (.aload_n 0, 1) := by decide +kernel
theorem dX3_come_132 : decode cX3_come 132 = .ok (.dup, 1) := by decide +kernel
theorem dX3_come_133 : decode cX3_come 133 = .ok (.getfield 47, 3) := by decide +kernel
theorem dX3_come_136 : decode cX3_come 136 = .ok (.aload_n 0, 1) := by decide +kernel
theorem dX3_come_137 : decode cX3_come 137 = .ok (.iload_n 3, 1) := by decide +kernel
theorem dX3_come_138 : decode cX3_come 138 = .ok (.iload_n 1, 1) := by decide +kernel
theorem dX3_come_139 : decode cX3_come 139 = .ok (.invokevirtual 82, 3) := by decide +kernel
theorem dX3_come_142 : decode cX3_come 142 = .ok (.iconst 1, 1) := by decide +kernel
theorem dX3_come_143 : decode cX3_come 143 = .ok (.if_icmp .gt 7, 3) := by decide +kernel
theorem dX3_come_146 : decode cX3_come 146 = .ok (.iconst 1, 1) := by decide +kernel
theorem dX3_come_147 : decode cX3_come 147 = .ok (.goto 4, 3) := by decide +kernel
theorem dX3_come_150 : decode cX3_come 150 = .ok (.iconst 0, 1) := by decide +kernel
theorem dX3_come_151 : decode cX3_come 151 = .ok (.iadd, 1) := by decide +kernel
theorem dX3_come_152 : decode cX3_come 152 = .ok (.putfield 47, 3) := by decide +kernel
theorem dX3_come_155 : decode cX3_come 155 = .ok (.aload_n 0, 1) := by decide +kernel
theorem dX3_come_156 : decode cX3_come 156 = .ok (.dup, 1) := by decide +kernel
theorem dX3_come_157 : decode cX3_come 157 = .ok (.getfield 76, 3) := by decide +kernel
theorem dX3_come_160 : decode cX3_come 160 = .ok (.iconst 1, 1) := by decide +kernel
theorem dX3_come_161 : decode cX3_come 161 = .ok (.iload_n 3, 1) := by decide +kernel
theorem dX3_come_162 : decode cX3_come 162 = .ok (.ishl, 1) := by decide +kernel
theorem dX3_come_163 : decode cX3_come 163 = .ok (.ior, 1) := by decide +kernel
theorem dX3_come_164 : decode cX3_come 164 = .ok (.putfield 76, 3) := by decide +kernel
theorem dX3_come_167 : decode cX3_come 167 = .ok (.aload_n 0, 1) := by decide +kernel
theorem dX3_come_168 : decode cX3_come 168 = .ok (.getfield 31, 3) := by decide +kernel
theorem dX3_come_171 : decode cX3_come 171 = .ok (.iload_n 3, 1) := by decide +kernel
theorem dX3_come_172 : decode cX3_come 172 = .ok (.dup2, 1) := by decide +kernel
theorem dX3_come_173 : decode cX3_come 173 = .ok (.iaload, 1) := by decide +kernel
theorem dX3_come_174 : decode cX3_come 174 = .ok (.iconst 1, 1) := by decide +kernel
theorem dX3_come_175 : decode cX3_come 175 = .ok (.iadd, 1) := by decide +kernel
theorem dX3_come_176 : decode cX3_come 176 = .ok (.iastore, 1) := by decide +kernel
theorem dX3_come_177 : decode cX3_come 177 = .ok (.aload_n 0, 1) := by decide +kernel
theorem dX3_come_178 : decode cX3_come 178 = .ok (.getfield 15, 3) := by decide +kernel
theorem dX3_come_181 : decode cX3_come 181 = .ok (.aload_n 0, 1) := by decide +kernel
theorem dX3_come_182 : decode cX3_come 182 = .ok (.getfield 3, 3) := by decide +kernel
theorem dX3_come_185 : decode cX3_come 185 = .ok (.getfield 79, 3) := by decide +kernel
theorem dX3_come_188 : decode cX3_come 188 = .ok (.iload_n 3, 1) := by decide +kernel
theorem dX3_come_189 : decode cX3_come 189 = .ok (.iaload, 1) := by decide +kernel
theorem dX3_come_190 : decode cX3_come 190 = .ok (.dup2, 1) := by decide +kernel
theorem dX3_come_191 : decode cX3_come 191 = .ok (.iaload, 1) := by decide +kernel
theorem dX3_come_192 : decode cX3_come 192 = .ok (.iload_n 2, 1) := by decide +kernel
theorem dX3_come_193 : decode cX3_come 193 = .ok (.isub, 1) := by decide +kernel
theorem dX3_come_194 : decode cX3_come 194 = .ok (.iastore, 1) := by decide +kernel
theorem dX3_come_195 : decode cX3_come 195 = .ok (.aload_n 0, 1) := by decide +kernel
theorem dX3_come_196 : decode cX3_come 196 = .ok (.getfield 28, 3) := by decide +kernel
theorem dX3_come_199 : decode cX3_come 199 = .ok (.iload_n 3, 1) := by decide +kernel
theorem dX3_come_200 : decode cX3_come 200 = .ok (.bipush 9, 2) := by decide +kernel
theorem dX3_come_202 : decode cX3_come 202 = .ok (.iastore, 1) := by decide +kernel
theorem dX3_come_203 : decode cX3_come 203 = .ok (.aload_n 0, 1) := by decide +kernel
theorem dX3_come_204 : decode cX3_come 204 = .ok (.getfield 22, 3) := by decide +kernel
theorem dX3_come_207 : decode cX3_come 207 = .ok (.iload_n 3, 1) := by decide +kernel
theorem dX3_come_208 : decode cX3_come 208 = .ok (.iconst 0, 1) := by decide +kernel
theorem dX3_come_209 : decode cX3_come 209 = .ok (.aload_n 0, 1) := by decide +kernel
theorem dX3_come_210 : decode cX3_come 210 = .ok (.getfield 22, 3) := by decide +kernel
theorem dX3_come_213 : decode cX3_come 213 = .ok (.iload_n 3, 1) := by decide +kernel
theorem dX3_come_214 : decode cX3_come 214 = .ok (.iaload, 1) := by decide +kernel
theorem dX3_come_215 : decode cX3_come 215 = .ok (.iload_n 2, 1) := by decide +kernel
theorem dX3_come_216 : decode cX3_come 216 = .ok (.isub, 1) := by decide +kernel
theorem dX3_come_217 : decode cX3_come 217 = .ok (.invokestatic 60, 3) := by decide +kernel
theorem dX3_come_220 : decode cX3_come 220 = .ok (.iastore, 1) := by decide +kernel
theorem dX3_come_221 : decode cX3_come 221 = .ok (.iload_n 2, 1) := by decide +kernel
theorem dX3_come_222 : decode cX3_come 222 = .ok (.aload_n 0, 1) := by decide +kernel
theorem dX3_come_223 : decode cX3_come 223 = .ok (.getfield 3, 3) := by decide +kernel
theorem dX3_come_226 : decode cX3_come 226 = .ok (.getfield 57, 3) := by decide +kernel
theorem dX3_come_229 : decode cX3_come 229 = .ok (.iload_n 3, 1) := by decide +kernel
theorem dX3_come_230 : decode cX3_come 230 = .ok (.iaload, 1) := by decide +kernel
theorem dX3_come_231 : decode cX3_come 231 = .ok (.iconst 3, 1) := by decide +kernel
theorem dX3_come_232 : decode cX3_come 232 = .ok (.iadd, 1) := by decide +kernel
theorem dX3_come_233 : decode cX3_come 233 = .ok (.if_icmp .gt 4, 3) := by decide +kernel
theorem dX3_come_236 : decode cX3_come 236 = .ok (.return_, 1) := by decide +kernel
theorem dX3_come_237 : decode cX3_come 237 = .ok (.aload_n 0, 1) := by decide +kernel
theorem dX3_come_238 : decode cX3_come 238 = .ok (.getfield 25, 3) := by decide +kernel
theorem dX3_come_241 : decode cX3_come 241 = .ok (.iload_n 3, 1) := by decide +kernel
theorem dX3_come_242 : decode cX3_come 242 = .ok (.iconst 1, 1) := by decide +kernel
theorem dX3_come_243 : decode cX3_come 243 = .ok (.iastore, 1) := by decide +kernel
theorem dX3_come_244 : decode cX3_come 244 = .ok (.aload_n 0, 1) := by decide +kernel
theorem dX3_come_245 : decode cX3_come 245 = .ok (.getfield 22, 3) := by decide +kernel
theorem dX3_come_248 : decode cX3_come 248 = .ok (.iload_n 3, 1) := by decide +kernel
theorem dX3_come_249 : decode cX3_come 249 = .ok (.iconst 0, 1) := by decide +kernel
theorem dX3_come_250 : decode cX3_come 250 = .ok (.iastore, 1) := by decide +kernel
theorem dX3_come_251 : decode cX3_come 251 = .ok (.aload_n 0, 1) := by decide +kernel
theorem dX3_come_252 : decode cX3_come 252 = .ok (.getfield 28, 3) := by decide +kernel
theorem dX3_come_255 : decode cX3_come 255 = .ok (.iload_n 3, 1) := by decide +kernel
theorem dX3_come_256 : decode cX3_come 256 = .ok (.iconst 0, 1) := by decide +kernel
theorem dX3_come_257 : decode cX3_come 257 = .ok (.iastore, 1) := by decide +kernel
theorem dX3_come_258 : decode cX3_come 258 = .ok (.return_, 1) := by decide +kernel
set_option maxRecDepth 20000 in
theorem ggX3_pass_X3_come : GoodIn wsX3_pass wsX3_come := goodIn_r _ [19, 8, 20, 7, 1, 21, 22, 23, 24, 10, 14, 11, 12, 5, 13, 25, 26, 27, 18, 28, 29, 30, 31, 32, 33, 34, 35, 36, 37, 38, 39, 40, 41, 42, 43, 44, 45, 46, 47, 48, 49, 50, 51, 52, 53, 54, 55, 56] (by decide +kernel) (by decide +kernel)
set_option maxRecDepth 20000 in
theorem gX3_pass_X3_come : GoodIn wsX3_pass (wsV RX3 97 RX3 yX3_come wsX3_come) := goodIn_app (goodIn_of _ (by decide +kernel)) ggX3_pass_X3_come
theorem dX3_pass_0 : decode cX3_pass 0 = .ok (.iconst 0, 1) := by decide +kernel
theorem dX3_pass_1 : decode cX3_pass 1 = .ok (.istore_n 1, 1) := by decide +kernel
theorem dX3_pass_2 : decode cX3_pass 2 = .ok (.iload_n 1, 1) := by decide +kernel
theorem dX3_pass_3 : decode cX3_pass 3 = .ok (.iconst 4, 1) := by decide +kernel
theorem dX3_pass_4 : decode cX3_pass 4 = .ok (.if_icmp .ge 33, 3) := by decide +kernel
theorem dX3_pass_7 : decode cX3_pass 7 = .ok (.aload_n 0, 1) := by decide +kernel
theorem dX3_pass_8 : decode cX3_pass 8 = .ok (.getfield 15, 3) := by decide +kernel
theorem dX3_pass_11 : decode cX3_pass 11 = .ok (.iload_n 1, 1) := by decide +kernel
theorem dX3_pass_12 : decode cX3_pass 12 = .ok (.bipush 60, 2) := by decide +kernel
theorem dX3_pass_14 : decode cX3_pass 14 = .ok (.aload_n 0, 1) := by decide +kernel
theorem dX3_pass_15 : decode cX3_pass 15 = .ok (.getfield 15, 3) := by decide +kernel
theorem dX3_pass_18 : decode cX3_pass 18 = .ok (.iload_n 1, 1) := by decide +kernel
theorem dX3_pass_19 : decode cX3_pass 19 = .ok (.iaload, 1) := by decide +kernel
theorem dX3_pass_20 : decode cX3_pass 20 = .ok (.aload_n 0, 1) := by decide +kernel
theorem dX3_pass_21 : decode cX3_pass 21 = .ok (.getfield 19, 3) := by decide +kernel
theorem dX3_pass_24 : decode cX3_pass 24 = .ok (.iload_n 1, 1) := by decide +kernel
theorem dX3_pass_25 : decode cX3_pass 25 = .ok (.iaload, 1) := by decide +kernel
theorem dX3_pass_26 : decode cX3_pass 26 = .ok (.iadd, 1) := by decide +kernel
theorem dX3_pass_27 : decode cX3_pass 27 = .ok (.invokestatic 85, 3) := by decide +kernel
theorem dX3_pass_30 : decode cX3_pass 30 = .ok (.iastore, 1) := by decide +kernel
theorem dX3_pass_31 : decode cX3_pass 31 = .ok (.iinc 1 1, 3) := by decide +kernel
theorem dX3_pass_34 : decode cX3_pass 34 = .ok (.goto (-32), 3) := by decide +kernel
theorem dX3_pass_37 : decode cX3_pass 37 = .ok (.aload_n 0, 1) := by decide +kernel
theorem dX3_pass_38 : decode cX3_pass 38 = .ok (.iconst 0, 1) := by decide +kernel
theorem dX3_pass_39 : decode cX3_pass 39 = .ok (.putfield 76, 3) := by decide +kernel
theorem dX3_pass_42 : decode cX3_pass 42 = .ok (.iconst 0, 1) := by decide +kernel
theorem dX3_pass_43 : decode cX3_pass 43 = .ok (.istore_n 1, 1) := by decide +kernel
theorem dX3_pass_44 : decode cX3_pass 44 = .ok (.iload_n 1, 1) := by decide +kernel
theorem dX3_pass_45 : decode cX3_pass 45 = .ok (.aload_n 0, 1) := by decide +kernel
theorem dX3_pass_46 : decode cX3_pass 46 = .ok (.getfield 3, 3) := by decide +kernel
theorem dX3_pass_49 : decode cX3_pass 49 = .ok (.getfield 88, 3) := by decide +kernel
theorem dX3_pass_52 : decode cX3_pass 52 = .ok (.if_icmp .ge 65, 3) := by decide +kernel
theorem dX3_pass_55 : decode cX3_pass 55 = .ok (.aload_n 0, 1) := by decide +kernel
theorem dX3_pass_56 : decode cX3_pass 56 = .ok (.getfield 3, 3) := by decide +kernel
theorem dX3_pass_59 : decode cX3_pass 59 = .ok (.getfield 91, 3) := by decide +kernel
theorem dX3_pass_62 : decode cX3_pass 62 = .ok (.iconst 3, 1) := by decide +kernel
theorem dX3_pass_63 : decode cX3_pass 63 = .ok (.iload_n 1, 1) := by decide +kernel
theorem dX3_pass_64 : decode cX3_pass 64 = .ok (.imul, 1) := by decide +kernel
theorem dX3_pass_65 : decode cX3_pass 65 = .ok (.iaload, 1) := by decide +kernel
theorem dX3_pass_66 : decode cX3_pass 66 = .ok (.aload_n 0, 1) := by decide +kernel
theorem dX3_pass_67 : decode cX3_pass 67 = .ok (.getfield 40, 3) := by decide +kernel
theorem dX3_pass_70 : decode cX3_pass 70 = .ok (.aload_n 0, 1) := by decide +kernel
theorem dX3_pass_71 : decode cX3_pass 71 = .ok (.getfield 3, 3) := by decide +kernel
theorem dX3_pass_74 : decode cX3_pass 74 = .ok (.getfield 94, 3) := by decide +kernel
theorem dX3_pass_77 : decode cX3_pass 77 = .ok (.irem, 1) := by decide +kernel
theorem dX3_pass_78 : decode cX3_pass 78 = .ok (.if_icmp .ne 33, 3) := by decide +kernel
theorem dX3_pass_81 : decode cX3_pass 81 = .ok (.aload_n 0, 1) := by decide +kernel
theorem dX3_pass_82 : decode cX3_pass 82 = .ok (.aload_n 0, 1) := by decide +kernel
theorem dX3_pass_83 : decode cX3_pass 83 = .ok (.getfield 3, 3) := by decide +kernel
theorem dX3_pass_86 : decode cX3_pass 86 = .ok (.getfield 91, 3) := by decide +kernel
theorem dX3_pass_89 : decode cX3_pass 89 = .ok (.iconst 3, 1) := by decide +kernel
theorem dX3_pass_90 : decode cX3_pass 90 = .ok (.iload_n 1, 1) := by decide +kernel
theorem dX3_pass_91 : decode cX3_pass 91 = .ok (.imul, 1) := by decide +kernel
theorem dX3_pass_92 : decode cX3_pass 92 = .ok (.iconst 1, 1) := by decide +kernel
theorem dX3_pass_93 : decode cX3_pass 93 = .ok (.iadd, 1) := by decide +kernel
theorem dX3_pass_94 : decode cX3_pass 94 = .ok (.iaload, 1) := by decide +kernel
theorem dX3_pass_95 : decode cX3_pass 95 = .ok (.aload_n 0, 1) := by decide +kernel
theorem dX3_pass_96 : decode cX3_pass 96 = .ok (.getfield 3, 3) := by decide +kernel
theorem dX3_pass_99 : decode cX3_pass 99 = .ok (.getfield 91, 3) := by decide +kernel
theorem dX3_pass_102 : decode cX3_pass 102 = .ok (.iconst 3, 1) := by decide +kernel
theorem dX3_pass_103 : decode cX3_pass 103 = .ok (.iload_n 1, 1) := by decide +kernel
theorem dX3_pass_104 : decode cX3_pass 104 = .ok (.imul, 1) := by decide +kernel
theorem dX3_pass_105 : decode cX3_pass 105 = .ok (.iconst 2, 1) := by decide +kernel
theorem dX3_pass_106 : decode cX3_pass 106 = .ok (.iadd, 1) := by decide +kernel
theorem dX3_pass_107 : decode cX3_pass 107 = .ok (.iaload, 1) := by decide +kernel
theorem dX3_pass_108 : decode cX3_pass 108 = .ok (.invokevirtual 97, 3) := by decide +kernel
theorem dX3_pass_111 : decode cX3_pass 111 = .ok (.iinc 1 1, 3) := by decide +kernel
theorem dX3_pass_114 : decode cX3_pass 114 = .ok (.goto (-70), 3) := by decide +kernel
theorem dX3_pass_117 : decode cX3_pass 117 = .ok (.iconst 0, 1) := by decide +kernel
theorem dX3_pass_118 : decode cX3_pass 118 = .ok (.istore_n 1, 1) := by decide +kernel
theorem dX3_pass_119 : decode cX3_pass 119 = .ok (.iload_n 1, 1) := by decide +kernel
theorem dX3_pass_120 : decode cX3_pass 120 = .ok (.aload_n 0, 1) := by decide +kernel
theorem dX3_pass_121 : decode cX3_pass 121 = .ok (.getfield 3, 3) := by decide +kernel
theorem dX3_pass_124 : decode cX3_pass 124 = .ok (.getfield 73, 3) := by decide +kernel
theorem dX3_pass_127 : decode cX3_pass 127 = .ok (.if_icmp .ge 66, 3) := by decide +kernel
theorem dX3_pass_130 : decode cX3_pass 130 = .ok (.aload_n 0, 1) := by decide +kernel
theorem dX3_pass_131 : decode cX3_pass 131 = .ok (.getfield 76, 3) := by decide +kernel
theorem dX3_pass_134 : decode cX3_pass 134 = .ok (.iload_n 1, 1) := by decide +kernel
theorem dX3_pass_135 : decode cX3_pass 135 = .ok (.ishr, 1) := by decide +kernel
theorem dX3_pass_136 : decode cX3_pass 136 = .ok (.iconst 1, 1) := by decide +kernel
theorem dX3_pass_137 : decode cX3_pass 137 = .ok (.iand, 1) := by decide +kernel
theorem dX3_pass_138 : decode cX3_pass 138 = .ok (.ifCond .ne 21, 3) := by decide +kernel
theorem dX3_pass_141 : decode cX3_pass 141 = .ok (.aload_n 0, 1) := by decide +kernel
theorem dX3_pass_142 : decode cX3_pass 142 = .ok (.getfield 28, 3) := by decide +kernel
theorem dX3_pass_145 : decode cX3_pass 145 = .ok (.iload_n 1, 1) := by decide +kernel
theorem dX3_pass_146 : decode cX3_pass 146 = .ok (.iconst 0, 1) := by decide +kernel
theorem dX3_pass_147 : decode cX3_pass 147 = .ok (.aload_n 0, 1) := by decide +kernel
theorem dX3_pass_148 : decode cX3_pass 148 = .ok (.getfield 28, 3) := by decide +kernel
theorem dX3_pass_151 : decode cX3_pass 151 = .ok (.iload_n 1, 1) := by decide +kernel
theorem dX3_pass_152 : decode cX3_pass 152 = .ok (.iaload, 1) := by decide +kernel
theorem dX3_pass_153 : decode cX3_pass 153 = .ok (.iconst 1, 1) := by decide +kernel
theorem dX3_pass_154 : decode cX3_pass 154 = .ok (.isub, 1) := by decide +kernel
theorem dX3_pass_155 : decode cX3_pass 155 = .ok (.invokestatic 60, 3) := by decide +kernel
theorem dX3_pass_158 : decode cX3_pass 158 = .ok (.iastore, 1) := by decide +kernel
theorem dX3_pass_159 : decode cX3_pass 159 = .ok (.aload_n 0, 1) := by decide +kernel
theorem dX3_pass_160 : decode cX3_pass 160 = .ok (.getfield 40, 3) := by decide +kernel
theorem dX3_pass_163 : decode cX3_pass 163 = .ok (.bipush 8, 2) := by decide +kernel
theorem dX3_pass_165 : decode cX3_pass 165 = .ok (.irem, 1) := by decide +kernel
theorem dX3_pass_166 : decode cX3_pass 166 = .ok (.ifCond .ne 21, 3) := by decide +kernel
theorem dX3_pass_169 : decode cX3_pass 169 = .ok (.aload_n 0, 1) := by decide +kernel
theorem dX3_pass_170 : decode cX3_pass 170 = .ok (.getfield 22, 3) := by decide +kernel
theorem dX3_pass_173 : decode cX3_pass 173 = .ok (.iload_n 1, 1) := by decide +kernel
theorem dX3_pass_174 : decode cX3_pass 174 = .ok (.iconst 0, 1) := by decide +kernel
theorem dX3_pass_175 : decode cX3_pass 175 = .ok (.aload_n 0, 1) := by decide +kernel
theorem dX3_pass_176 : decode cX3_pass 176 = .ok (.getfield 22, 3) := by decide +kernel
theorem dX3_pass_179 : decode cX3_pass 179 = .ok (.iload_n 1, 1) := by decide +kernel
theorem dX3_pass_180 : decode cX3_pass 180 = .ok (.iaload, 1) := by decide +kernel
theorem dX3_pass_181 : decode cX3_pass 181 = .ok (.iconst 1, 1) := by decide +kernel
theorem dX3_pass_182 : decode cX3_pass 182 = .ok (.isub, 1) := by decide +kernel
theorem dX3_pass_183 : decode cX3_pass 183 = .ok (.invokestatic 60, 3) := by decide +kernel
theorem dX3_pass_186 : decode cX3_pass 186 = .ok (.iastore, 1) := by decide +kernel
theorem dX3_pass_187 : decode cX3_pass 187 = .ok (.iinc 1 1, 3) := by decide +kernel
theorem dX3_pass_190 : decode cX3_pass 190 = .ok (.goto (-71), 3) := by decide +kernel
theorem dX3_pass_193 : decode cX3_pass 193 = .ok (.aload_n 0, 1) := by decide +kernel
theorem dX3_pass_194 : decode cX3_pass 194 = .ok (.dup, 1) := by decide +kernel
theorem dX3_pass_195 : decode cX3_pass 195 = .ok (.getfield 40, 3) := by decide +kernel
theorem dX3_pass_198 : decode cX3_pass 198 = .ok (.iconst 1, 1) := by decide +kernel
theorem dX3_pass_199 : decode cX3_pass 199 = .ok (.iadd, 1) := by decide +kernel
theorem dX3_pass_200 : decode cX3_pass 200 = .ok (.putfield 40, 3) := by decide +kernel
theorem dX3_pass_203 : decode cX3_pass 203 = .ok (.return_, 1) := by decide +kernel
theorem dX3_cracked_0 : decode cX3_cracked 0 = .ok (.iconst 0, 1) := by decide +kernel
theorem dX3_cracked_1 : decode cX3_cracked 1 = .ok (.istore_n 1, 1) := by decide +kernel
theorem dX3_cracked_2 : decode cX3_cracked 2 = .ok (.iconst 0, 1) := by decide +kernel
theorem dX3_cracked_3 : decode cX3_cracked 3 = .ok (.istore_n 2, 1) := by decide +kernel
theorem dX3_cracked_4 : decode cX3_cracked 4 = .ok (.iload_n 2, 1) := by decide +kernel
theorem dX3_cracked_5 : decode cX3_cracked 5 = .ok (.aload_n 0, 1) := by decide +kernel
theorem dX3_cracked_6 : decode cX3_cracked 6 = .ok (.getfield 3, 3) := by decide +kernel
theorem dX3_cracked_9 : decode cX3_cracked 9 = .ok (.getfield 73, 3) := by decide +kernel
theorem dX3_cracked_12 : decode cX3_cracked 12 = .ok (.if_icmp .ge 18, 3) := by decide +kernel
theorem dX3_cracked_15 : decode cX3_cracked 15 = .ok (.iload_n 1, 1) := by decide +kernel
theorem dX3_cracked_16 : decode cX3_cracked 16 = .ok (.aload_n 0, 1) := by decide +kernel
theorem dX3_cracked_17 : decode cX3_cracked 17 = .ok (.getfield 25, 3) := by decide +kernel
theorem dX3_cracked_20 : decode cX3_cracked 20 = .ok (.iload_n 2, 1) := by decide +kernel
theorem dX3_cracked_21 : decode cX3_cracked 21 = .ok (.iaload, 1) := by decide +kernel
theorem dX3_cracked_22 : decode cX3_cracked 22 = .ok (.iadd, 1) := by decide +kernel
theorem dX3_cracked_23 : decode cX3_cracked 23 = .ok (.istore_n 1, 1) := by decide +kernel
theorem dX3_cracked_24 : decode cX3_cracked 24 = .ok (.iinc 2 1, 3) := by decide +kernel
theorem dX3_cracked_27 : decode cX3_cracked 27 = .ok (.goto (-23), 3) := by decide +kernel
theorem dX3_cracked_30 : decode cX3_cracked 30 = .ok (.iload_n 1, 1) := by decide +kernel
theorem dX3_cracked_31 : decode cX3_cracked 31 = .ok (.ireturn, 1) := by decide +kernel
set_option maxRecDepth 20000 in
theorem ggX3_isAgainst_X3_tone : GoodIn wsX3_isAgainst wsX3_tone := goodIn_r _ [10, 11, 12, 13, 14, 3, 15, 16, 17, 18, 19, 20, 21, 22, 23, 24, 25, 26, 27, 28, 29, 30, 31, 32, 33, 34, 35, 36] (by decide +kernel) (by decide +kernel)
set_option maxRecDepth 20000 in
theorem gX3_isAgainst_X3_tone : GoodIn wsX3_isAgainst (wsV RX3 66 RX3 yX3_tone wsX3_tone) := goodIn_app (goodIn_of _ (by decide +kernel)) ggX3_isAgainst_X3_tone
theorem dX3_isAgainst_0 : decode cX3_isAgainst 0 = .ok (.aload_n 0, 1) := by decide +kernel
theorem dX3_isAgainst_1 : decode cX3_isAgainst 1 = .ok (.iload_n 1, 1) := by decide +kernel
theorem dX3_isAgainst_2 : decode cX3_isAgainst 2 = .ok (.invokevirtual 66, 3) := by decide +kernel
theorem dX3_isAgainst_5 : decode cX3_isAgainst 5 = .ok (.aload_n 0, 1) := by decide +kernel
theorem dX3_isAgainst_6 : decode cX3_isAgainst 6 = .ok (.iload_n 2, 1) := by decide +kernel
theorem dX3_isAgainst_7 : decode cX3_isAgainst 7 = .ok (.invokevirtual 66, 3) := by decide +kernel
theorem dX3_isAgainst_10 : decode cX3_isAgainst 10 = .ok (.isub, 1) := by decide +kernel
theorem dX3_isAgainst_11 : decode cX3_isAgainst 11 = .ok (.invokestatic 70, 3) := by decide +kernel
theorem dX3_isAgainst_14 : decode cX3_isAgainst 14 = .ok (.istore_n 3, 1) := by decide +kernel
theorem dX3_isAgainst_15 : decode cX3_isAgainst 15 = .ok (.aload_n 0, 1) := by decide +kernel
theorem dX3_isAgainst_16 : decode cX3_isAgainst 16 = .ok (.getfield 28, 3) := by decide +kernel
theorem dX3_isAgainst_19 : decode cX3_isAgainst 19 = .ok (.iload_n 1, 1) := by decide +kernel
theorem dX3_isAgainst_20 : decode cX3_isAgainst 20 = .ok (.iaload, 1) := by decide +kernel
theorem dX3_isAgainst_21 : decode cX3_isAgainst 21 = .ok (.ifCond .le 26, 3) := by decide +kernel
theorem dX3_isAgainst_24 : decode cX3_isAgainst 24 = .ok (.aload_n 0, 1) := by decide +kernel
theorem dX3_isAgainst_25 : decode cX3_isAgainst 25 = .ok (.getfield 28, 3) := by decide +kernel
theorem dX3_isAgainst_28 : decode cX3_isAgainst 28 = .ok (.iload_n 2, 1) := by decide +kernel
theorem dX3_isAgainst_29 : decode cX3_isAgainst 29 = .ok (.iaload, 1) := by decide +kernel
theorem dX3_isAgainst_30 : decode cX3_isAgainst 30 = .ok (.ifCond .le 17, 3) := by decide +kernel
theorem dX3_isAgainst_33 : decode cX3_isAgainst 33 = .ok (.iload_n 3, 1) := by decide +kernel
theorem dX3_isAgainst_34 : decode cX3_isAgainst 34 = .ok (.iconst 1, 1) := by decide +kernel
theorem dX3_isAgainst_35 : decode cX3_isAgainst 35 = .ok (.if_icmp .eq 8, 3) := by decide +kernel
theorem dX3_isAgainst_38 : decode cX3_isAgainst 38 = .ok (.iload_n 3, 1) := by decide +kernel
theorem dX3_isAgainst_39 : decode cX3_isAgainst 39 = .ok (.iconst 2, 1) := by decide +kernel
theorem dX3_isAgainst_40 : decode cX3_isAgainst 40 = .ok (.if_icmp .ne 7, 3) := by decide +kernel
theorem dX3_isAgainst_43 : decode cX3_isAgainst 43 = .ok (.iconst 1, 1) := by decide +kernel
theorem dX3_isAgainst_44 : decode cX3_isAgainst 44 = .ok (.goto 4, 3) := by decide +kernel
theorem dX3_isAgainst_47 : decode cX3_isAgainst 47 = .ok (.iconst 0, 1) := by decide +kernel
theorem dX3_isAgainst_48 : decode cX3_isAgainst 48 = .ok (.ireturn, 1) := by decide +kernel
