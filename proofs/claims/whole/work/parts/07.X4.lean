set_option maxRecDepth 20000 in
theorem ggX4_init_X3_init : GoodIn wsX4_init wsX3_init := goodIn_r _ [15, 16, 17, 2, 3, 5, 18, 19, 20, 21, 22, 23, 33, 34, 35, 36, 37, 38, 39, 40, 41, 42, 43, 44] (by decide +kernel) (by decide +kernel)
set_option maxRecDepth 20000 in
theorem gX4_init_X3_init_n25 : GoodIn wsX4_init (wsX3_init) := ggX4_init_X3_init
theorem dX4_init_0 : decode cX4_init 0 = .ok (.aload_n 0, 1) := by decide +kernel
theorem dX4_init_1 : decode cX4_init 1 = .ok (.invokespecial 1, 3) := by decide +kernel
theorem dX4_init_4 : decode cX4_init 4 = .ok (.aload_n 0, 1) := by decide +kernel
theorem dX4_init_5 : decode cX4_init 5 = .ok (.bipush 16, 2) := by decide +kernel
theorem dX4_init_7 : decode cX4_init 7 = .ok (.putfield 7, 3) := by decide +kernel
theorem dX4_init_10 : decode cX4_init 10 = .ok (.aload_n 0, 1) := by decide +kernel
theorem dX4_init_11 : decode cX4_init 11 = .ok (.bipush 96, 2) := by decide +kernel
theorem dX4_init_13 : decode cX4_init 13 = .ok (.newarray .int, 2) := by decide +kernel
theorem dX4_init_15 : decode cX4_init 15 = .ok (.putfield 13, 3) := by decide +kernel
theorem dX4_init_18 : decode cX4_init 18 = .ok (.aload_n 0, 1) := by decide +kernel
theorem dX4_init_19 : decode cX4_init 19 = .ok (.bipush 16, 2) := by decide +kernel
theorem dX4_init_21 : decode cX4_init 21 = .ok (.newarray .int, 2) := by decide +kernel
theorem dX4_init_23 : decode cX4_init 23 = .ok (.putfield 17, 3) := by decide +kernel
theorem dX4_init_26 : decode cX4_init 26 = .ok (.aload_n 0, 1) := by decide +kernel
theorem dX4_init_27 : decode cX4_init 27 = .ok (.bipush 16, 2) := by decide +kernel
theorem dX4_init_29 : decode cX4_init 29 = .ok (.newarray .int, 2) := by decide +kernel
theorem dX4_init_31 : decode cX4_init 31 = .ok (.putfield 20, 3) := by decide +kernel
theorem dX4_init_34 : decode cX4_init 34 = .ok (.aload_n 0, 1) := by decide +kernel
theorem dX4_init_35 : decode cX4_init 35 = .ok (.new 23, 3) := by decide +kernel
theorem dX4_init_38 : decode cX4_init 38 = .ok (.dup, 1) := by decide +kernel
theorem dX4_init_39 : decode cX4_init 39 = .ok (.aload_n 0, 1) := by decide +kernel
theorem dX4_init_40 : decode cX4_init 40 = .ok (.invokespecial 25, 3) := by decide +kernel
theorem dX4_init_43 : decode cX4_init 43 = .ok (.putfield 28, 3) := by decide +kernel
theorem dX4_init_46 : decode cX4_init 46 = .ok (.aload_n 0, 1) := by decide +kernel
theorem dX4_init_47 : decode cX4_init 47 = .ok (.new 23, 3) := by decide +kernel
theorem dX4_init_50 : decode cX4_init 50 = .ok (.dup, 1) := by decide +kernel
theorem dX4_init_51 : decode cX4_init 51 = .ok (.aload_n 0, 1) := by decide +kernel
theorem dX4_init_52 : decode cX4_init 52 = .ok (.invokespecial 25, 3) := by decide +kernel
theorem dX4_init_55 : decode cX4_init 55 = .ok (.putfield 32, 3) := by decide +kernel
theorem dX4_init_58 : decode cX4_init 58 = .ok (.return_, 1) := by decide +kernel
theorem dX4_thrown_0 : decode cX4_thrown 0 = .ok (.aload_n 0, 1) := by decide +kernel
theorem dX4_thrown_1 : decode cX4_thrown 1 = .ok (.getfield 35, 3) := by decide +kernel
theorem dX4_thrown_4 : decode cX4_thrown 4 = .ok (.ireturn, 1) := by decide +kernel
theorem dX4_no_0 : decode cX4_no 0 = .ok (.aload_n 0, 1) := by decide +kernel
theorem dX4_no_1 : decode cX4_no 1 = .ok (.iload_n 1, 1) := by decide +kernel
theorem dX4_no_2 : decode cX4_no 2 = .ok (.putfield 35, 3) := by decide +kernel
theorem dX4_no_5 : decode cX4_no 5 = .ok (.iconst 0, 1) := by decide +kernel
theorem dX4_no_6 : decode cX4_no 6 = .ok (.ireturn, 1) := by decide +kernel
theorem dX4_isIn_0 : decode cX4_isIn 0 = .ok (.iload_n 0, 1) := by decide +kernel
theorem dX4_isIn_1 : decode cX4_isIn 1 = .ok (.iload_n 1, 1) := by decide +kernel
theorem dX4_isIn_2 : decode cX4_isIn 2 = .ok (.if_icmp .lt 12, 3) := by decide +kernel
theorem dX4_isIn_5 : decode cX4_isIn 5 = .ok (.iload_n 0, 1) := by decide +kernel
theorem dX4_isIn_6 : decode cX4_isIn 6 = .ok (.iload_n 2, 1) := by decide +kernel
theorem dX4_isIn_7 : decode cX4_isIn 7 = .ok (.if_icmp .gt 7, 3) := by decide +kernel
theorem dX4_isIn_10 : decode cX4_isIn 10 = .ok (.iconst 1, 1) := by decide +kernel
theorem dX4_isIn_11 : decode cX4_isIn 11 = .ok (.goto 4, 3) := by decide +kernel
theorem dX4_isIn_14 : decode cX4_isIn 14 = .ok (.iconst 0, 1) := by decide +kernel
theorem dX4_isIn_15 : decode cX4_isIn 15 = .ok (.ireturn, 1) := by decide +kernel
set_option maxRecDepth 20000 in
theorem ggX4_isGlass_X4_isIn : GoodIn wsX4_isGlass wsX4_isIn := goodIn_r _ [5] (by decide +kernel) (by decide +kernel)
set_option maxRecDepth 20000 in
theorem gX4_isGlass_X4_isIn : GoodIn wsX4_isGlass (va_wsS RX4 41 yX4_isIn wsX4_isIn) := goodIn_app (goodIn_of _ (by decide +kernel)) ggX4_isGlass_X4_isIn
theorem dX4_isGlass_0 : decode cX4_isGlass 0 = .ok (.iload_n 1, 1) := by decide +kernel
theorem dX4_isGlass_1 : decode cX4_isGlass 1 = .ok (.iconst 0, 1) := by decide +kernel
theorem dX4_isGlass_2 : decode cX4_isGlass 2 = .ok (.aload_n 0, 1) := by decide +kernel
theorem dX4_isGlass_3 : decode cX4_isGlass 3 = .ok (.getfield 38, 3) := by decide +kernel
theorem dX4_isGlass_6 : decode cX4_isGlass 6 = .ok (.iconst 1, 1) := by decide +kernel
theorem dX4_isGlass_7 : decode cX4_isGlass 7 = .ok (.isub, 1) := by decide +kernel
theorem dX4_isGlass_8 : decode cX4_isGlass 8 = .ok (.invokestatic 41, 3) := by decide +kernel
theorem dX4_isGlass_11 : decode cX4_isGlass 11 = .ok (.ireturn, 1) := by decide +kernel
set_option maxRecDepth 20000 in
theorem ggX4_isRow_X4_isIn : GoodIn wsX4_isRow wsX4_isIn := goodIn_r _ [4] (by decide +kernel) (by decide +kernel)
set_option maxRecDepth 20000 in
theorem gX4_isRow_X4_isIn : GoodIn wsX4_isRow (va_wsS RX4 41 yX4_isIn wsX4_isIn) := goodIn_app (goodIn_of _ (by decide +kernel)) ggX4_isRow_X4_isIn
theorem dX4_isRow_0 : decode cX4_isRow 0 = .ok (.iload_n 0, 1) := by decide +kernel
theorem dX4_isRow_1 : decode cX4_isRow 1 = .ok (.iconst 0, 1) := by decide +kernel
theorem dX4_isRow_2 : decode cX4_isRow 2 = .ok (.iconst 3, 1) := by decide +kernel
theorem dX4_isRow_3 : decode cX4_isRow 3 = .ok (.invokestatic 41, 3) := by decide +kernel
theorem dX4_isRow_6 : decode cX4_isRow 6 = .ok (.ireturn, 1) := by decide +kernel
set_option maxRecDepth 20000 in
theorem ggX4_set_X4_isRow : GoodIn wsX4_set wsX4_isRow := goodIn_r _ [9, 10, 11, 8, 12] (by decide +kernel) (by decide +kernel)
set_option maxRecDepth 20000 in
theorem gX4_set_X4_isRow : GoodIn wsX4_set (va_wsS RX4 45 yX4_isRow wsX4_isRow) := goodIn_app (goodIn_of _ (by decide +kernel)) ggX4_set_X4_isRow
set_option maxRecDepth 20000 in
theorem ggX4_set_X4_isIn : GoodIn wsX4_set wsX4_isIn := goodIn_r _ [12] (by decide +kernel) (by decide +kernel)
set_option maxRecDepth 20000 in
theorem gX4_set_X4_isIn : GoodIn wsX4_set (va_wsS RX4 41 yX4_isIn wsX4_isIn) := goodIn_app (goodIn_of _ (by decide +kernel)) ggX4_set_X4_isIn
set_option maxRecDepth 20000 in
theorem ggX4_set_X4_no : GoodIn wsX4_set wsX4_no := goodIn_r _ [16, 1, 17, 18, 19, 20, 21, 22, 23, 24, 25] (by decide +kernel) (by decide +kernel)
set_option maxRecDepth 20000 in
theorem gX4_set_X4_no : GoodIn wsX4_set (wsV RX4 49 RX4 yX4_no wsX4_no) := goodIn_app (goodIn_of _ (by decide +kernel)) ggX4_set_X4_no
theorem dX4_set_0 : decode cX4_set 0 = .ok (.aload_n 0, 1) := by decide +kernel
theorem dX4_set_1 : decode cX4_set 1 = .ok (.iconst 0, 1) := by decide +kernel
theorem dX4_set_2 : decode cX4_set 2 = .ok (.putfield 35, 3) := by decide +kernel
theorem dX4_set_5 : decode cX4_set 5 = .ok (.iload_n 1, 1) := by decide +kernel
theorem dX4_set_6 : decode cX4_set 6 = .ok (.invokestatic 45, 3) := by decide +kernel
theorem dX4_set_9 : decode cX4_set 9 = .ok (.ifCond .eq 25, 3) := by decide +kernel
theorem dX4_set_12 : decode cX4_set 12 = .ok (.iload_n 2, 1) := by decide +kernel
theorem dX4_set_13 : decode cX4_set 13 = .ok (.iconst 1, 1) := by decide +kernel
theorem dX4_set_14 : decode cX4_set 14 = .ok (.bipush 9, 2) := by decide +kernel
theorem dX4_set_16 : decode cX4_set 16 = .ok (.invokestatic 41, 3) := by decide +kernel
theorem dX4_set_19 : decode cX4_set 19 = .ok (.ifCond .eq 15, 3) := by decide +kernel
theorem dX4_set_22 : decode cX4_set 22 = .ok (.iload_n 3, 1) := by decide +kernel
theorem dX4_set_23 : decode cX4_set 23 = .ok (.iconst 0, 1) := by decide +kernel
theorem dX4_set_24 : decode cX4_set 24 = .ok (.bipush 100, 2) := by decide +kernel
theorem dX4_set_26 : decode cX4_set 26 = .ok (.iload_n 2, 1) := by decide +kernel
theorem dX4_set_27 : decode cX4_set 27 = .ok (.imul, 1) := by decide +kernel
theorem dX4_set_28 : decode cX4_set 28 = .ok (.invokestatic 41, 3) := by decide +kernel
theorem dX4_set_31 : decode cX4_set 31 = .ok (.ifCond .ne 9, 3) := by decide +kernel
theorem dX4_set_34 : decode cX4_set 34 = .ok (.aload_n 0, 1) := by decide +kernel
theorem dX4_set_35 : decode cX4_set 35 = .ok (.iconst 1, 1) := by decide +kernel
theorem dX4_set_36 : decode cX4_set 36 = .ok (.invokevirtual 49, 3) := by decide +kernel
theorem dX4_set_39 : decode cX4_set 39 = .ok (.ireturn, 1) := by decide +kernel
theorem dX4_set_40 : decode cX4_set 40 = .ok (.aload_n 0, 1) := by decide +kernel
theorem dX4_set_41 : decode cX4_set 41 = .ok (.getfield 38, 3) := by decide +kernel
theorem dX4_set_44 : decode cX4_set 44 = .ok (.bipush 16, 2) := by decide +kernel
theorem dX4_set_46 : decode cX4_set 46 = .ok (.if_icmp .ne 9, 3) := by decide +kernel
theorem dX4_set_49 : decode cX4_set 49 = .ok (.aload_n 0, 1) := by decide +kernel
theorem dX4_set_50 : decode cX4_set 50 = .ok (.iconst 2, 1) := by decide +kernel
theorem dX4_set_51 : decode cX4_set 51 = .ok (.invokevirtual 49, 3) := by decide +kernel
theorem dX4_set_54 : decode cX4_set 54 = .ok (.ireturn, 1) := by decide +kernel
theorem dX4_set_55 : decode cX4_set 55 = .ok (.aload_n 0, 1) := by decide +kernel
theorem dX4_set_56 : decode cX4_set 56 = .ok (.getfield 17, 3) := by decide +kernel
theorem dX4_set_59 : decode cX4_set 59 = .ok (.aload_n 0, 1) := by decide +kernel
theorem dX4_set_60 : decode cX4_set 60 = .ok (.getfield 38, 3) := by decide +kernel
theorem dX4_set_63 : decode cX4_set 63 = .ok (.iload_n 1, 1) := by decide +kernel
theorem dX4_set_64 : decode cX4_set 64 = .ok (.iastore, 1) := by decide +kernel
theorem dX4_set_65 : decode cX4_set 65 = .ok (.aload_n 0, 1) := by decide +kernel
theorem dX4_set_66 : decode cX4_set 66 = .ok (.getfield 20, 3) := by decide +kernel
theorem dX4_set_69 : decode cX4_set 69 = .ok (.aload_n 0, 1) := by decide +kernel
theorem dX4_set_70 : decode cX4_set 70 = .ok (.getfield 38, 3) := by decide +kernel
theorem dX4_set_73 : decode cX4_set 73 = .ok (.iload_n 2, 1) := by decide +kernel
theorem dX4_set_74 : decode cX4_set 74 = .ok (.iastore, 1) := by decide +kernel
theorem dX4_set_75 : decode cX4_set 75 = .ok (.aload_n 0, 1) := by decide +kernel
theorem dX4_set_76 : decode cX4_set 76 = .ok (.getfield 28, 3) := by decide +kernel
theorem dX4_set_79 : decode cX4_set 79 = .ok (.getfield 53, 3) := by decide +kernel
theorem dX4_set_82 : decode cX4_set 82 = .ok (.aload_n 0, 1) := by decide +kernel
theorem dX4_set_83 : decode cX4_set 83 = .ok (.getfield 38, 3) := by decide +kernel
theorem dX4_set_86 : decode cX4_set 86 = .ok (.iload_n 3, 1) := by decide +kernel
theorem dX4_set_87 : decode cX4_set 87 = .ok (.iastore, 1) := by decide +kernel
theorem dX4_set_88 : decode cX4_set 88 = .ok (.aload_n 0, 1) := by decide +kernel
theorem dX4_set_89 : decode cX4_set 89 = .ok (.dup, 1) := by decide +kernel
theorem dX4_set_90 : decode cX4_set 90 = .ok (.getfield 38, 3) := by decide +kernel
theorem dX4_set_93 : decode cX4_set 93 = .ok (.iconst 1, 1) := by decide +kernel
theorem dX4_set_94 : decode cX4_set 94 = .ok (.iadd, 1) := by decide +kernel
theorem dX4_set_95 : decode cX4_set 95 = .ok (.putfield 38, 3) := by decide +kernel
theorem dX4_set_98 : decode cX4_set 98 = .ok (.aload_n 0, 1) := by decide +kernel
theorem dX4_set_99 : decode cX4_set 99 = .ok (.getfield 38, 3) := by decide +kernel
theorem dX4_set_102 : decode cX4_set 102 = .ok (.iconst 1, 1) := by decide +kernel
theorem dX4_set_103 : decode cX4_set 103 = .ok (.isub, 1) := by decide +kernel
theorem dX4_set_104 : decode cX4_set 104 = .ok (.ireturn, 1) := by decide +kernel
set_option maxRecDepth 20000 in
theorem ggX4_drop_X4_isGlass : GoodIn wsX4_drop wsX4_isGlass := goodIn_r _ [8, 9, 10, 11, 7, 12, 28, 29, 30, 31, 32, 33, 34, 35, 36] (by decide +kernel) (by decide +kernel)
set_option maxRecDepth 20000 in
theorem gX4_drop_X4_isGlass : GoodIn wsX4_drop (wsV RX4 56 RX4 yX4_isGlass wsX4_isGlass) := goodIn_app (goodIn_of _ (by decide +kernel)) ggX4_drop_X4_isGlass
set_option maxRecDepth 20000 in
theorem ggX4_drop_X4_no : GoodIn wsX4_drop wsX4_no := goodIn_r _ [16, 1, 28, 29, 30, 31, 32, 33, 34, 35, 36] (by decide +kernel) (by decide +kernel)
set_option maxRecDepth 20000 in
theorem gX4_drop_X4_no : GoodIn wsX4_drop (wsV RX4 49 RX4 yX4_no wsX4_no) := goodIn_app (goodIn_of _ (by decide +kernel)) ggX4_drop_X4_no
set_option maxRecDepth 20000 in
theorem ggX4_drop_X4_isIn : GoodIn wsX4_drop wsX4_isIn := goodIn_r _ [12] (by decide +kernel) (by decide +kernel)
set_option maxRecDepth 20000 in
theorem gX4_drop_X4_isIn : GoodIn wsX4_drop (va_wsS RX4 41 yX4_isIn wsX4_isIn) := goodIn_app (goodIn_of _ (by decide +kernel)) ggX4_drop_X4_isIn
set_option maxRecDepth 20000 in
theorem ggX4_drop_X3_tone : GoodIn wsX4_drop wsX3_tone := goodIn_r _ [21, 22, 23, 24, 25, 26, 27, 37, 38, 39, 40, 41, 42, 43, 44, 45, 46, 47, 48, 28, 29, 30, 31, 32, 33, 34, 35, 36] (by decide +kernel) (by decide +kernel)
set_option maxRecDepth 20000 in
theorem gX4_drop_X3_tone : GoodIn wsX4_drop (wsV RX4 62 RX3 yX3_tone wsX3_tone) := goodIn_app (goodIn_of _ (by decide +kernel)) ggX4_drop_X3_tone
theorem dX4_drop_0 : decode cX4_drop 0 = .ok (.aload_n 0, 1) := by decide +kernel
theorem dX4_drop_1 : decode cX4_drop 1 = .ok (.iconst 0, 1) := by decide +kernel
theorem dX4_drop_2 : decode cX4_drop 2 = .ok (.putfield 35, 3) := by decide +kernel
theorem dX4_drop_5 : decode cX4_drop 5 = .ok (.aload_n 0, 1) := by decide +kernel
theorem dX4_drop_6 : decode cX4_drop 6 = .ok (.iload_n 1, 1) := by decide +kernel
theorem dX4_drop_7 : decode cX4_drop 7 = .ok (.invokevirtual 56, 3) := by decide +kernel
theorem dX4_drop_10 : decode cX4_drop 10 = .ok (.ifCond .ne 9, 3) := by decide +kernel
theorem dX4_drop_13 : decode cX4_drop 13 = .ok (.aload_n 0, 1) := by decide +kernel
theorem dX4_drop_14 : decode cX4_drop 14 = .ok (.iconst 1, 1) := by decide +kernel
theorem dX4_drop_15 : decode cX4_drop 15 = .ok (.invokevirtual 49, 3) := by decide +kernel
theorem dX4_drop_18 : decode cX4_drop 18 = .ok (.ireturn, 1) := by decide +kernel
theorem dX4_drop_19 : decode cX4_drop 19 = .ok (.iload_n 2, 1) := by decide +kernel
theorem dX4_drop_20 : decode cX4_drop 20 = .ok (.ifCond .eq 16, 3) := by decide +kernel
theorem dX4_drop_23 : decode cX4_drop 23 = .ok (.iload_n 2, 1) := by decide +kernel
theorem dX4_drop_24 : decode cX4_drop 24 = .ok (.sipush (-200), 3) := by decide +kernel
theorem dX4_drop_27 : decode cX4_drop 27 = .ok (.sipush 200, 3) := by decide +kernel
theorem dX4_drop_30 : decode cX4_drop 30 = .ok (.invokestatic 41, 3) := by decide +kernel
theorem dX4_drop_33 : decode cX4_drop 33 = .ok (.ifCond .ne 9, 3) := by decide +kernel
theorem dX4_drop_36 : decode cX4_drop 36 = .ok (.aload_n 0, 1) := by decide +kernel
theorem dX4_drop_37 : decode cX4_drop 37 = .ok (.iconst 2, 1) := by decide +kernel
theorem dX4_drop_38 : decode cX4_drop 38 = .ok (.invokevirtual 49, 3) := by decide +kernel
theorem dX4_drop_41 : decode cX4_drop 41 = .ok (.ireturn, 1) := by decide +kernel
theorem dX4_drop_42 : decode cX4_drop 42 = .ok (.aload_n 0, 1) := by decide +kernel
theorem dX4_drop_43 : decode cX4_drop 43 = .ok (.getfield 28, 3) := by decide +kernel
theorem dX4_drop_46 : decode cX4_drop 46 = .ok (.getfield 53, 3) := by decide +kernel
theorem dX4_drop_49 : decode cX4_drop 49 = .ok (.iload_n 1, 1) := by decide +kernel
theorem dX4_drop_50 : decode cX4_drop 50 = .ok (.iaload, 1) := by decide +kernel
theorem dX4_drop_51 : decode cX4_drop 51 = .ok (.iload_n 2, 1) := by decide +kernel
theorem dX4_drop_52 : decode cX4_drop 52 = .ok (.iadd, 1) := by decide +kernel
theorem dX4_drop_53 : decode cX4_drop 53 = .ok (.istore_n 3, 1) := by decide +kernel
theorem dX4_drop_54 : decode cX4_drop 54 = .ok (.aload_n 0, 1) := by decide +kernel
theorem dX4_drop_55 : decode cX4_drop 55 = .ok (.getfield 28, 3) := by decide +kernel
theorem dX4_drop_58 : decode cX4_drop 58 = .ok (.getfield 59, 3) := by decide +kernel
theorem dX4_drop_61 : decode cX4_drop 61 = .ok (.iload_n 1, 1) := by decide +kernel
theorem dX4_drop_62 : decode cX4_drop 62 = .ok (.iaload, 1) := by decide +kernel
theorem dX4_drop_63 : decode cX4_drop 63 = .ok (.iconst 1, 1) := by decide +kernel
theorem dX4_drop_64 : decode cX4_drop 64 = .ok (.if_icmp .eq 20, 3) := by decide +kernel
theorem dX4_drop_67 : decode cX4_drop 67 = .ok (.iload_n 3, 1) := by decide +kernel
theorem dX4_drop_68 : decode cX4_drop 68 = .ok (.iconst 0, 1) := by decide +kernel
theorem dX4_drop_69 : decode cX4_drop 69 = .ok (.bipush 100, 2) := by decide +kernel
theorem dX4_drop_71 : decode cX4_drop 71 = .ok (.aload_n 0, 1) := by decide +kernel
theorem dX4_drop_72 : decode cX4_drop 72 = .ok (.getfield 20, 3) := by decide +kernel
theorem dX4_drop_75 : decode cX4_drop 75 = .ok (.iload_n 1, 1) := by decide +kernel
theorem dX4_drop_76 : decode cX4_drop 76 = .ok (.iaload, 1) := by decide +kernel
theorem dX4_drop_77 : decode cX4_drop 77 = .ok (.imul, 1) := by decide +kernel
theorem dX4_drop_78 : decode cX4_drop 78 = .ok (.invokestatic 41, 3) := by decide +kernel
theorem dX4_drop_81 : decode cX4_drop 81 = .ok (.ifCond .ne 9, 3) := by decide +kernel
theorem dX4_drop_84 : decode cX4_drop 84 = .ok (.aload_n 0, 1) := by decide +kernel
theorem dX4_drop_85 : decode cX4_drop 85 = .ok (.iconst 3, 1) := by decide +kernel
theorem dX4_drop_86 : decode cX4_drop 86 = .ok (.invokevirtual 49, 3) := by decide +kernel
theorem dX4_drop_89 : decode cX4_drop 89 = .ok (.ireturn, 1) := by decide +kernel
theorem dX4_drop_90 : decode cX4_drop 90 = .ok (.aload_n 0, 1) := by decide +kernel
theorem dX4_drop_91 : decode cX4_drop 91 = .ok (.getfield 28, 3) := by decide +kernel
theorem dX4_drop_94 : decode cX4_drop 94 = .ok (.getfield 53, 3) := by decide +kernel
theorem dX4_drop_97 : decode cX4_drop 97 = .ok (.iload_n 1, 1) := by decide +kernel
theorem dX4_drop_98 : decode cX4_drop 98 = .ok (.iload_n 3, 1) := by decide +kernel
theorem dX4_drop_99 : decode cX4_drop 99 = .ok (.iastore, 1) := by decide +kernel
theorem dX4_drop_100 : decode cX4_drop 100 = .ok (.aload_n 0, 1) := by decide +kernel
theorem dX4_drop_101 : decode cX4_drop 101 = .ok (.getfield 28, 3) := by decide +kernel
theorem dX4_drop_104 : decode cX4_drop 104 = .ok (.iload_n 1, 1) := by decide +kernel
theorem dX4_drop_105 : decode cX4_drop 105 = .ok (.invokevirtual 62, 3) := by decide +kernel
theorem dX4_drop_108 : decode cX4_drop 108 = .ok (.ireturn, 1) := by decide +kernel
set_option maxRecDepth 20000 in
theorem ggX4_pump_X4_isRow : GoodIn wsX4_pump wsX4_isRow := goodIn_r _ [6, 7, 8, 5, 9] (by decide +kernel) (by decide +kernel)
set_option maxRecDepth 20000 in
theorem gX4_pump_X4_isRow : GoodIn wsX4_pump (va_wsS RX4 45 yX4_isRow wsX4_isRow) := goodIn_app (goodIn_of _ (by decide +kernel)) ggX4_pump_X4_isRow
set_option maxRecDepth 20000 in
theorem ggX4_pump_X4_no : GoodIn wsX4_pump wsX4_no := goodIn_r _ [13, 1, 14, 15, 16, 17, 18, 19, 20, 21, 22] (by decide +kernel) (by decide +kernel)
set_option maxRecDepth 20000 in
theorem gX4_pump_X4_no : GoodIn wsX4_pump (wsV RX4 49 RX4 yX4_no wsX4_no) := goodIn_app (goodIn_of _ (by decide +kernel)) ggX4_pump_X4_no
set_option maxRecDepth 20000 in
theorem ggX4_pump_X4_isIn : GoodIn wsX4_pump wsX4_isIn := goodIn_r _ [9] (by decide +kernel) (by decide +kernel)
set_option maxRecDepth 20000 in
theorem gX4_pump_X4_isIn : GoodIn wsX4_pump (va_wsS RX4 41 yX4_isIn wsX4_isIn) := goodIn_app (goodIn_of _ (by decide +kernel)) ggX4_pump_X4_isIn
theorem dX4_pump_0 : decode cX4_pump 0 = .ok (.aload_n 0, 1) := by decide +kernel
theorem dX4_pump_1 : decode cX4_pump 1 = .ok (.iconst 0, 1) := by decide +kernel
theorem dX4_pump_2 : decode cX4_pump 2 = .ok (.putfield 35, 3) := by decide +kernel
theorem dX4_pump_5 : decode cX4_pump 5 = .ok (.iload_n 1, 1) := by decide +kernel
theorem dX4_pump_6 : decode cX4_pump 6 = .ok (.invokestatic 45, 3) := by decide +kernel
theorem dX4_pump_9 : decode cX4_pump 9 = .ok (.ifCond .ne 9, 3) := by decide +kernel
theorem dX4_pump_12 : decode cX4_pump 12 = .ok (.aload_n 0, 1) := by decide +kernel
theorem dX4_pump_13 : decode cX4_pump 13 = .ok (.iconst 1, 1) := by decide +kernel
theorem dX4_pump_14 : decode cX4_pump 14 = .ok (.invokevirtual 49, 3) := by decide +kernel
theorem dX4_pump_17 : decode cX4_pump 17 = .ok (.ireturn, 1) := by decide +kernel
theorem dX4_pump_18 : decode cX4_pump 18 = .ok (.iload_n 2, 1) := by decide +kernel
theorem dX4_pump_19 : decode cX4_pump 19 = .ok (.iconst 0, 1) := by decide +kernel
theorem dX4_pump_20 : decode cX4_pump 20 = .ok (.bipush 9, 2) := by decide +kernel
theorem dX4_pump_22 : decode cX4_pump 22 = .ok (.invokestatic 41, 3) := by decide +kernel
theorem dX4_pump_25 : decode cX4_pump 25 = .ok (.ifCond .ne 9, 3) := by decide +kernel
theorem dX4_pump_28 : decode cX4_pump 28 = .ok (.aload_n 0, 1) := by decide +kernel
theorem dX4_pump_29 : decode cX4_pump 29 = .ok (.iconst 2, 1) := by decide +kernel
theorem dX4_pump_30 : decode cX4_pump 30 = .ok (.invokevirtual 49, 3) := by decide +kernel
theorem dX4_pump_33 : decode cX4_pump 33 = .ok (.ireturn, 1) := by decide +kernel
theorem dX4_pump_34 : decode cX4_pump 34 = .ok (.aload_n 0, 1) := by decide +kernel
theorem dX4_pump_35 : decode cX4_pump 35 = .ok (.getfield 28, 3) := by decide +kernel
theorem dX4_pump_38 : decode cX4_pump 38 = .ok (.getfield 65, 3) := by decide +kernel
theorem dX4_pump_41 : decode cX4_pump 41 = .ok (.iload_n 1, 1) := by decide +kernel
theorem dX4_pump_42 : decode cX4_pump 42 = .ok (.iaload, 1) := by decide +kernel
theorem dX4_pump_43 : decode cX4_pump 43 = .ok (.istore_n 3, 1) := by decide +kernel
theorem dX4_pump_44 : decode cX4_pump 44 = .ok (.aload_n 0, 1) := by decide +kernel
theorem dX4_pump_45 : decode cX4_pump 45 = .ok (.getfield 28, 3) := by decide +kernel
theorem dX4_pump_48 : decode cX4_pump 48 = .ok (.getfield 65, 3) := by decide +kernel
theorem dX4_pump_51 : decode cX4_pump 51 = .ok (.iload_n 1, 1) := by decide +kernel
theorem dX4_pump_52 : decode cX4_pump 52 = .ok (.iload_n 2, 1) := by decide +kernel
theorem dX4_pump_53 : decode cX4_pump 53 = .ok (.iastore, 1) := by decide +kernel
theorem dX4_pump_54 : decode cX4_pump 54 = .ok (.iload_n 3, 1) := by decide +kernel
theorem dX4_pump_55 : decode cX4_pump 55 = .ok (.ireturn, 1) := by decide +kernel
set_option maxRecDepth 20000 in
theorem ggX4_against_X3_isAgainst : GoodIn wsX4_against wsX3_isAgainst := goodIn_r _ [7, 8, 9, 10, 11, 12, 13, 14, 15, 6, 16, 17, 18, 19, 20, 21, 31, 32, 33, 34, 35, 36, 37, 38, 39, 40, 41, 42, 22, 23, 24, 25, 26, 27, 28, 29, 30] (by decide +kernel) (by decide +kernel)
set_option maxRecDepth 20000 in
theorem gX4_against_X3_isAgainst : GoodIn wsX4_against (wsV RX4 68 RX3 yX3_isAgainst wsX3_isAgainst) := goodIn_app (goodIn_of _ (by decide +kernel)) ggX4_against_X3_isAgainst
theorem dX4_against_0 : decode cX4_against 0 = .ok (.iconst 0, 1) := by decide +kernel
theorem dX4_against_1 : decode cX4_against 1 = .ok (.istore_n 2, 1) := by decide +kernel
theorem dX4_against_2 : decode cX4_against 2 = .ok (.iconst 0, 1) := by decide +kernel
theorem dX4_against_3 : decode cX4_against 3 = .ok (.istore_n 3, 1) := by decide +kernel
theorem dX4_against_4 : decode cX4_against 4 = .ok (.iload_n 3, 1) := by decide +kernel
theorem dX4_against_5 : decode cX4_against 5 = .ok (.aload_n 0, 1) := by decide +kernel
theorem dX4_against_6 : decode cX4_against 6 = .ok (.getfield 38, 3) := by decide +kernel
theorem dX4_against_9 : decode cX4_against 9 = .ok (.if_icmp .ge 34, 3) := by decide +kernel
theorem dX4_against_12 : decode cX4_against 12 = .ok (.iload_n 2, 1) := by decide +kernel
theorem dX4_against_13 : decode cX4_against 13 = .ok (.iload_n 3, 1) := by decide +kernel
theorem dX4_against_14 : decode cX4_against 14 = .ok (.iload_n 1, 1) := by decide +kernel
theorem dX4_against_15 : decode cX4_against 15 = .ok (.if_icmp .eq 19, 3) := by decide +kernel
theorem dX4_against_18 : decode cX4_against 18 = .ok (.aload_n 0, 1) := by decide +kernel
theorem dX4_against_19 : decode cX4_against 19 = .ok (.getfield 28, 3) := by decide +kernel
theorem dX4_against_22 : decode cX4_against 22 = .ok (.iload_n 3, 1) := by decide +kernel
theorem dX4_against_23 : decode cX4_against 23 = .ok (.iload_n 1, 1) := by decide +kernel
theorem dX4_against_24 : decode cX4_against 24 = .ok (.invokevirtual 68, 3) := by decide +kernel
theorem dX4_against_27 : decode cX4_against 27 = .ok (.ifCond .eq 7, 3) := by decide +kernel
theorem dX4_against_30 : decode cX4_against 30 = .ok (.iconst 1, 1) := by decide +kernel
theorem dX4_against_31 : decode cX4_against 31 = .ok (.goto 4, 3) := by decide +kernel
theorem dX4_against_34 : decode cX4_against 34 = .ok (.iconst 0, 1) := by decide +kernel
theorem dX4_against_35 : decode cX4_against 35 = .ok (.iadd, 1) := by decide +kernel
theorem dX4_against_36 : decode cX4_against 36 = .ok (.istore_n 2, 1) := by decide +kernel
theorem dX4_against_37 : decode cX4_against 37 = .ok (.iinc 3 1, 3) := by decide +kernel
theorem dX4_against_40 : decode cX4_against 40 = .ok (.goto (-36), 3) := by decide +kernel
theorem dX4_against_43 : decode cX4_against 43 = .ok (.iload_n 2, 1) := by decide +kernel
theorem dX4_against_44 : decode cX4_against 44 = .ok (.ireturn, 1) := by decide +kernel
set_option maxRecDepth 20000 in
theorem ggX4_glassTold_X3_tone : GoodIn wsX4_glassTold wsX3_tone := goodIn_r _ [9, 10, 11, 12, 13, 14, 15, 40, 41, 42, 43, 44, 45, 46, 47, 48, 49, 50, 51, 31, 32, 33, 34, 35, 36, 37, 38, 39] (by decide +kernel) (by decide +kernel)
set_option maxRecDepth 20000 in
theorem gX4_glassTold_X3_tone : GoodIn wsX4_glassTold (wsV RX4 62 RX3 yX3_tone wsX3_tone) := goodIn_app (goodIn_of _ (by decide +kernel)) ggX4_glassTold_X3_tone
set_option maxRecDepth 20000 in
theorem ggX4_glassTold_X4_against : GoodIn wsX4_glassTold wsX4_against := goodIn_r _ [20, 21, 4, 22, 23, 24, 8, 25, 26, 27, 14, 28, 29, 30, 6, 7, 9, 10, 11, 12, 13, 15, 31, 32, 33, 34, 35, 36, 37, 38, 39, 40, 41, 42, 43, 44, 45, 46, 47, 48, 49, 50, 51] (by decide +kernel) (by decide +kernel)
set_option maxRecDepth 20000 in
theorem gX4_glassTold_X4_against : GoodIn wsX4_glassTold (wsV RX4 78 RX4 yX4_against wsX4_against) := goodIn_app (goodIn_of _ (by decide +kernel)) ggX4_glassTold_X4_against
theorem dX4_glassTold_0 : decode cX4_glassTold 0 = .ok (.bipush 8, 2) := by decide +kernel
theorem dX4_glassTold_2 : decode cX4_glassTold 2 = .ok (.newarray .int, 2) := by decide +kernel
theorem dX4_glassTold_4 : decode cX4_glassTold 4 = .ok (.dup, 1) := by decide +kernel
theorem dX4_glassTold_5 : decode cX4_glassTold 5 = .ok (.iconst 0, 1) := by decide +kernel
theorem dX4_glassTold_6 : decode cX4_glassTold 6 = .ok (.aload_n 0, 1) := by decide +kernel
theorem dX4_glassTold_7 : decode cX4_glassTold 7 = .ok (.getfield 17, 3) := by decide +kernel
theorem dX4_glassTold_10 : decode cX4_glassTold 10 = .ok (.iload_n 1, 1) := by decide +kernel
theorem dX4_glassTold_11 : decode cX4_glassTold 11 = .ok (.iaload, 1) := by decide +kernel
theorem dX4_glassTold_12 : decode cX4_glassTold 12 = .ok (.iastore, 1) := by decide +kernel
theorem dX4_glassTold_13 : decode cX4_glassTold 13 = .ok (.dup, 1) := by decide +kernel
theorem dX4_glassTold_14 : decode cX4_glassTold 14 = .ok (.iconst 1, 1) := by decide +kernel
theorem dX4_glassTold_15 : decode cX4_glassTold 15 = .ok (.aload_n 0, 1) := by decide +kernel
theorem dX4_glassTold_16 : decode cX4_glassTold 16 = .ok (.getfield 20, 3) := by decide +kernel
theorem dX4_glassTold_19 : decode cX4_glassTold 19 = .ok (.iload_n 1, 1) := by decide +kernel
theorem dX4_glassTold_20 : decode cX4_glassTold 20 = .ok (.iaload, 1) := by decide +kernel
theorem dX4_glassTold_21 : decode cX4_glassTold 21 = .ok (.iastore, 1) := by decide +kernel
theorem dX4_glassTold_22 : decode cX4_glassTold 22 = .ok (.dup, 1) := by decide +kernel
theorem dX4_glassTold_23 : decode cX4_glassTold 23 = .ok (.iconst 2, 1) := by decide +kernel
theorem dX4_glassTold_24 : decode cX4_glassTold 24 = .ok (.aload_n 0, 1) := by decide +kernel
theorem dX4_glassTold_25 : decode cX4_glassTold 25 = .ok (.getfield 28, 3) := by decide +kernel
theorem dX4_glassTold_28 : decode cX4_glassTold 28 = .ok (.getfield 53, 3) := by decide +kernel
theorem dX4_glassTold_31 : decode cX4_glassTold 31 = .ok (.iload_n 1, 1) := by decide +kernel
theorem dX4_glassTold_32 : decode cX4_glassTold 32 = .ok (.iaload, 1) := by decide +kernel
theorem dX4_glassTold_33 : decode cX4_glassTold 33 = .ok (.iastore, 1) := by decide +kernel
theorem dX4_glassTold_34 : decode cX4_glassTold 34 = .ok (.dup, 1) := by decide +kernel
theorem dX4_glassTold_35 : decode cX4_glassTold 35 = .ok (.iconst 3, 1) := by decide +kernel
theorem dX4_glassTold_36 : decode cX4_glassTold 36 = .ok (.aload_n 0, 1) := by decide +kernel
theorem dX4_glassTold_37 : decode cX4_glassTold 37 = .ok (.getfield 28, 3) := by decide +kernel
theorem dX4_glassTold_40 : decode cX4_glassTold 40 = .ok (.iload_n 1, 1) := by decide +kernel
theorem dX4_glassTold_41 : decode cX4_glassTold 41 = .ok (.invokevirtual 62, 3) := by decide +kernel
theorem dX4_glassTold_44 : decode cX4_glassTold 44 = .ok (.iastore, 1) := by decide +kernel
theorem dX4_glassTold_45 : decode cX4_glassTold 45 = .ok (.dup, 1) := by decide +kernel
theorem dX4_glassTold_46 : decode cX4_glassTold 46 = .ok (.iconst 4, 1) := by decide +kernel
theorem dX4_glassTold_47 : decode cX4_glassTold 47 = .ok (.aload_n 0, 1) := by decide +kernel
theorem dX4_glassTold_48 : decode cX4_glassTold 48 = .ok (.getfield 28, 3) := by decide +kernel
theorem dX4_glassTold_51 : decode cX4_glassTold 51 = .ok (.getfield 59, 3) := by decide +kernel
theorem dX4_glassTold_54 : decode cX4_glassTold 54 = .ok (.iload_n 1, 1) := by decide +kernel
theorem dX4_glassTold_55 : decode cX4_glassTold 55 = .ok (.iaload, 1) := by decide +kernel
theorem dX4_glassTold_56 : decode cX4_glassTold 56 = .ok (.iastore, 1) := by decide +kernel
theorem dX4_glassTold_57 : decode cX4_glassTold 57 = .ok (.dup, 1) := by decide +kernel
theorem dX4_glassTold_58 : decode cX4_glassTold 58 = .ok (.iconst 5, 1) := by decide +kernel
theorem dX4_glassTold_59 : decode cX4_glassTold 59 = .ok (.aload_n 0, 1) := by decide +kernel
theorem dX4_glassTold_60 : decode cX4_glassTold 60 = .ok (.getfield 28, 3) := by decide +kernel
theorem dX4_glassTold_63 : decode cX4_glassTold 63 = .ok (.getfield 72, 3) := by decide +kernel
theorem dX4_glassTold_66 : decode cX4_glassTold 66 = .ok (.iload_n 1, 1) := by decide +kernel
theorem dX4_glassTold_67 : decode cX4_glassTold 67 = .ok (.iaload, 1) := by decide +kernel
theorem dX4_glassTold_68 : decode cX4_glassTold 68 = .ok (.iastore, 1) := by decide +kernel
theorem dX4_glassTold_69 : decode cX4_glassTold 69 = .ok (.dup, 1) := by decide +kernel
theorem dX4_glassTold_70 : decode cX4_glassTold 70 = .ok (.bipush 6, 2) := by decide +kernel
theorem dX4_glassTold_72 : decode cX4_glassTold 72 = .ok (.aload_n 0, 1) := by decide +kernel
theorem dX4_glassTold_73 : decode cX4_glassTold 73 = .ok (.getfield 28, 3) := by decide +kernel
theorem dX4_glassTold_76 : decode cX4_glassTold 76 = .ok (.getfield 75, 3) := by decide +kernel
theorem dX4_glassTold_79 : decode cX4_glassTold 79 = .ok (.iload_n 1, 1) := by decide +kernel
theorem dX4_glassTold_80 : decode cX4_glassTold 80 = .ok (.iaload, 1) := by decide +kernel
theorem dX4_glassTold_81 : decode cX4_glassTold 81 = .ok (.iastore, 1) := by decide +kernel
theorem dX4_glassTold_82 : decode cX4_glassTold 82 = .ok (.dup, 1) := by decide +kernel
theorem dX4_glassTold_83 : decode cX4_glassTold 83 = .ok (.bipush 7, 2) := by decide +kernel
theorem dX4_glassTold_85 : decode cX4_glassTold 85 = .ok (.aload_n 0, 1) := by decide +kernel
theorem dX4_glassTold_86 : decode cX4_glassTold 86 = .ok (.iload_n 1, 1) := by decide +kernel
theorem dX4_glassTold_87 : decode cX4_glassTold 87 = .ok (.invokevirtual 78, 3) := by decide +kernel
theorem dX4_glassTold_90 : decode cX4_glassTold 90 = .ok (.iastore, 1) := by decide +kernel
theorem dX4_glassTold_91 : decode cX4_glassTold 91 = .ok (.astore_n 3, 1) := by decide +kernel
theorem dX4_glassTold_92 : decode cX4_glassTold 92 = .ok (.aload_n 3, 1) := by decide +kernel
theorem dX4_glassTold_93 : decode cX4_glassTold 93 = .ok (.iload_n 2, 1) := by decide +kernel
theorem dX4_glassTold_94 : decode cX4_glassTold 94 = .ok (.iaload, 1) := by decide +kernel
theorem dX4_glassTold_95 : decode cX4_glassTold 95 = .ok (.ireturn, 1) := by decide +kernel
set_option maxRecDepth 20000 in
theorem ggX4_glass_X4_isGlass : GoodIn wsX4_glass wsX4_isGlass := goodIn_r _ [6, 7, 8, 9, 5, 10, 47, 48, 49, 50, 51, 52, 53, 54, 55] (by decide +kernel) (by decide +kernel)
set_option maxRecDepth 20000 in
theorem gX4_glass_X4_isGlass : GoodIn wsX4_glass (wsV RX4 56 RX4 yX4_isGlass wsX4_isGlass) := goodIn_app (goodIn_of _ (by decide +kernel)) ggX4_glass_X4_isGlass
set_option maxRecDepth 20000 in
theorem ggX4_glass_X4_isIn : GoodIn wsX4_glass wsX4_isIn := goodIn_r _ [10] (by decide +kernel) (by decide +kernel)
set_option maxRecDepth 20000 in
theorem gX4_glass_X4_isIn : GoodIn wsX4_glass (va_wsS RX4 41 yX4_isIn wsX4_isIn) := goodIn_app (goodIn_of _ (by decide +kernel)) ggX4_glass_X4_isIn
set_option maxRecDepth 20000 in
theorem ggX4_glass_X4_glassTold : GoodIn wsX4_glass wsX4_glassTold := goodIn_r _ [14, 15, 16, 17, 18, 19, 20, 21, 22, 23, 24, 25, 26, 27, 28, 29, 30, 31, 32, 5, 33, 7, 34, 35, 36, 37, 38, 39, 40, 41, 42, 47, 48, 49, 50, 51, 52, 53, 54, 55, 56, 57, 58, 59, 60, 61, 62, 63, 64, 65, 66, 67] (by decide +kernel) (by decide +kernel)
set_option maxRecDepth 20000 in
theorem gX4_glass_X4_glassTold : GoodIn wsX4_glass (wsV RX4 81 RX4 yX4_glassTold wsX4_glassTold) := goodIn_app (goodIn_of _ (by decide +kernel)) ggX4_glass_X4_glassTold
set_option maxRecDepth 20000 in
theorem ggX4_glass_X4_no : GoodIn wsX4_glass wsX4_no := goodIn_r _ [46, 1, 47, 48, 49, 50, 51, 52, 53, 54, 55] (by decide +kernel) (by decide +kernel)
set_option maxRecDepth 20000 in
theorem gX4_glass_X4_no : GoodIn wsX4_glass (wsV RX4 49 RX4 yX4_no wsX4_no) := goodIn_app (goodIn_of _ (by decide +kernel)) ggX4_glass_X4_no
theorem dX4_glass_0 : decode cX4_glass 0 = .ok (.aload_n 0, 1) := by decide +kernel
theorem dX4_glass_1 : decode cX4_glass 1 = .ok (.iconst 0, 1) := by decide +kernel
theorem dX4_glass_2 : decode cX4_glass 2 = .ok (.putfield 35, 3) := by decide +kernel
theorem dX4_glass_5 : decode cX4_glass 5 = .ok (.aload_n 0, 1) := by decide +kernel
theorem dX4_glass_6 : decode cX4_glass 6 = .ok (.iload_n 1, 1) := by decide +kernel
theorem dX4_glass_7 : decode cX4_glass 7 = .ok (.invokevirtual 56, 3) := by decide +kernel
theorem dX4_glass_10 : decode cX4_glass 10 = .ok (.ifCond .eq 22, 3) := by decide +kernel
theorem dX4_glass_13 : decode cX4_glass 13 = .ok (.iload_n 2, 1) := by decide +kernel
theorem dX4_glass_14 : decode cX4_glass 14 = .ok (.iconst 0, 1) := by decide +kernel
theorem dX4_glass_15 : decode cX4_glass 15 = .ok (.bipush 7, 2) := by decide +kernel
theorem dX4_glass_17 : decode cX4_glass 17 = .ok (.invokestatic 41, 3) := by decide +kernel
theorem dX4_glass_20 : decode cX4_glass 20 = .ok (.ifCond .eq 12, 3) := by decide +kernel
theorem dX4_glass_23 : decode cX4_glass 23 = .ok (.aload_n 0, 1) := by decide +kernel
theorem dX4_glass_24 : decode cX4_glass 24 = .ok (.iload_n 1, 1) := by decide +kernel
theorem dX4_glass_25 : decode cX4_glass 25 = .ok (.iload_n 2, 1) := by decide +kernel
theorem dX4_glass_26 : decode cX4_glass 26 = .ok (.invokevirtual 81, 3) := by decide +kernel
theorem dX4_glass_29 : decode cX4_glass 29 = .ok (.goto 8, 3) := by decide +kernel
theorem dX4_glass_32 : decode cX4_glass 32 = .ok (.aload_n 0, 1) := by decide +kernel
theorem dX4_glass_33 : decode cX4_glass 33 = .ok (.iconst 1, 1) := by decide +kernel
theorem dX4_glass_34 : decode cX4_glass 34 = .ok (.invokevirtual 49, 3) := by decide +kernel
theorem dX4_glass_37 : decode cX4_glass 37 = .ok (.ireturn, 1) := by decide +kernel
theorem dX4_rowTold_0 : decode cX4_rowTold 0 = .ok (.iconst 0, 1) := by decide +kernel
theorem dX4_rowTold_1 : decode cX4_rowTold 1 = .ok (.istore_n 3, 1) := by decide +kernel
theorem dX4_rowTold_2 : decode cX4_rowTold 2 = .ok (.iconst 0, 1) := by decide +kernel
theorem dX4_rowTold_3 : decode cX4_rowTold 3 = .ok (.istore 4, 2) := by decide +kernel
theorem dX4_rowTold_5 : decode cX4_rowTold 5 = .ok (.iload 4, 2) := by decide +kernel
theorem dX4_rowTold_7 : decode cX4_rowTold 7 = .ok (.aload_n 0, 1) := by decide +kernel
theorem dX4_rowTold_8 : decode cX4_rowTold 8 = .ok (.getfield 38, 3) := by decide +kernel
theorem dX4_rowTold_11 : decode cX4_rowTold 11 = .ok (.if_icmp .ge 28, 3) := by decide +kernel
theorem dX4_rowTold_14 : decode cX4_rowTold 14 = .ok (.iload_n 3, 1) := by decide +kernel
theorem dX4_rowTold_15 : decode cX4_rowTold 15 = .ok (.aload_n 0, 1) := by decide +kernel
theorem dX4_rowTold_16 : decode cX4_rowTold 16 = .ok (.getfield 17, 3) := by decide +kernel
theorem dX4_rowTold_19 : decode cX4_rowTold 19 = .ok (.iload 4, 2) := by decide +kernel
theorem dX4_rowTold_21 : decode cX4_rowTold 21 = .ok (.iaload, 1) := by decide +kernel
theorem dX4_rowTold_22 : decode cX4_rowTold 22 = .ok (.iload_n 1, 1) := by decide +kernel
theorem dX4_rowTold_23 : decode cX4_rowTold 23 = .ok (.if_icmp .ne 7, 3) := by decide +kernel
theorem dX4_rowTold_26 : decode cX4_rowTold 26 = .ok (.iconst 1, 1) := by decide +kernel
theorem dX4_rowTold_27 : decode cX4_rowTold 27 = .ok (.goto 4, 3) := by decide +kernel
theorem dX4_rowTold_30 : decode cX4_rowTold 30 = .ok (.iconst 0, 1) := by decide +kernel
theorem dX4_rowTold_31 : decode cX4_rowTold 31 = .ok (.iadd, 1) := by decide +kernel
theorem dX4_rowTold_32 : decode cX4_rowTold 32 = .ok (.istore_n 3, 1) := by decide +kernel
theorem dX4_rowTold_33 : decode cX4_rowTold 33 = .ok (.iinc 4 1, 3) := by decide +kernel
theorem dX4_rowTold_36 : decode cX4_rowTold 36 = .ok (.goto (-31), 3) := by decide +kernel
theorem dX4_rowTold_39 : decode cX4_rowTold 39 = .ok (.iload_n 2, 1) := by decide +kernel
theorem dX4_rowTold_40 : decode cX4_rowTold 40 = .ok (.ifCond .ne 15, 3) := by decide +kernel
theorem dX4_rowTold_43 : decode cX4_rowTold 43 = .ok (.aload_n 0, 1) := by decide +kernel
theorem dX4_rowTold_44 : decode cX4_rowTold 44 = .ok (.getfield 28, 3) := by decide +kernel
theorem dX4_rowTold_47 : decode cX4_rowTold 47 = .ok (.getfield 85, 3) := by decide +kernel
theorem dX4_rowTold_50 : decode cX4_rowTold 50 = .ok (.iload_n 1, 1) := by decide +kernel
theorem dX4_rowTold_51 : decode cX4_rowTold 51 = .ok (.iaload, 1) := by decide +kernel
theorem dX4_rowTold_52 : decode cX4_rowTold 52 = .ok (.goto 21, 3) := by decide +kernel
theorem dX4_rowTold_55 : decode cX4_rowTold 55 = .ok (.iload_n 2, 1) := by decide +kernel
theorem dX4_rowTold_56 : decode cX4_rowTold 56 = .ok (.iconst 1, 1) := by decide +kernel
theorem dX4_rowTold_57 : decode cX4_rowTold 57 = .ok (.if_icmp .ne 15, 3) := by decide +kernel
theorem dX4_rowTold_60 : decode cX4_rowTold 60 = .ok (.aload_n 0, 1) := by decide +kernel
theorem dX4_rowTold_61 : decode cX4_rowTold 61 = .ok (.getfield 28, 3) := by decide +kernel
theorem dX4_rowTold_64 : decode cX4_rowTold 64 = .ok (.getfield 65, 3) := by decide +kernel
theorem dX4_rowTold_67 : decode cX4_rowTold 67 = .ok (.iload_n 1, 1) := by decide +kernel
theorem dX4_rowTold_68 : decode cX4_rowTold 68 = .ok (.iaload, 1) := by decide +kernel
theorem dX4_rowTold_69 : decode cX4_rowTold 69 = .ok (.goto 4, 3) := by decide +kernel
theorem dX4_rowTold_72 : decode cX4_rowTold 72 = .ok (.iload_n 3, 1) := by decide +kernel
theorem dX4_rowTold_73 : decode cX4_rowTold 73 = .ok (.ireturn, 1) := by decide +kernel
set_option maxRecDepth 20000 in
theorem ggX4_row_X4_isRow : GoodIn wsX4_row wsX4_isRow := goodIn_r _ [5, 6, 7, 4, 8] (by decide +kernel) (by decide +kernel)
set_option maxRecDepth 20000 in
theorem gX4_row_X4_isRow : GoodIn wsX4_row (va_wsS RX4 45 yX4_isRow wsX4_isRow) := goodIn_app (goodIn_of _ (by decide +kernel)) ggX4_row_X4_isRow
set_option maxRecDepth 20000 in
theorem ggX4_row_X4_isIn : GoodIn wsX4_row wsX4_isIn := goodIn_r _ [8] (by decide +kernel) (by decide +kernel)
set_option maxRecDepth 20000 in
theorem gX4_row_X4_isIn : GoodIn wsX4_row (va_wsS RX4 41 yX4_isIn wsX4_isIn) := goodIn_app (goodIn_of _ (by decide +kernel)) ggX4_row_X4_isIn
set_option maxRecDepth 20000 in
theorem ggX4_row_X4_rowTold : GoodIn wsX4_row wsX4_rowTold := goodIn_r _ [12, 13, 14, 15, 20, 21, 22, 23, 24, 25, 26, 27, 28, 29, 30, 31, 32, 33, 34, 35, 36, 37, 38, 39, 40] (by decide +kernel) (by decide +kernel)
set_option maxRecDepth 20000 in
theorem gX4_row_X4_rowTold : GoodIn wsX4_row (wsV RX4 88 RX4 yX4_rowTold wsX4_rowTold) := goodIn_app (goodIn_of _ (by decide +kernel)) ggX4_row_X4_rowTold
set_option maxRecDepth 20000 in
theorem ggX4_row_X4_no : GoodIn wsX4_row wsX4_no := goodIn_r _ [19, 1, 20, 21, 22, 23, 24, 25, 26, 27, 28] (by decide +kernel) (by decide +kernel)
set_option maxRecDepth 20000 in
theorem gX4_row_X4_no : GoodIn wsX4_row (wsV RX4 49 RX4 yX4_no wsX4_no) := goodIn_app (goodIn_of _ (by decide +kernel)) ggX4_row_X4_no
theorem dX4_row_0 : decode cX4_row 0 = .ok (.aload_n 0, 1) := by decide +kernel
theorem dX4_row_1 : decode cX4_row 1 = .ok (.iconst 0, 1) := by decide +kernel
theorem dX4_row_2 : decode cX4_row 2 = .ok (.putfield 35, 3) := by decide +kernel
theorem dX4_row_5 : decode cX4_row 5 = .ok (.iload_n 1, 1) := by decide +kernel
theorem dX4_row_6 : decode cX4_row 6 = .ok (.invokestatic 45, 3) := by decide +kernel
theorem dX4_row_9 : decode cX4_row 9 = .ok (.ifCond .eq 21, 3) := by decide +kernel
theorem dX4_row_12 : decode cX4_row 12 = .ok (.iload_n 2, 1) := by decide +kernel
theorem dX4_row_13 : decode cX4_row 13 = .ok (.iconst 0, 1) := by decide +kernel
theorem dX4_row_14 : decode cX4_row 14 = .ok (.iconst 2, 1) := by decide +kernel
theorem dX4_row_15 : decode cX4_row 15 = .ok (.invokestatic 41, 3) := by decide +kernel
theorem dX4_row_18 : decode cX4_row 18 = .ok (.ifCond .eq 12, 3) := by decide +kernel
theorem dX4_row_21 : decode cX4_row 21 = .ok (.aload_n 0, 1) := by decide +kernel
theorem dX4_row_22 : decode cX4_row 22 = .ok (.iload_n 1, 1) := by decide +kernel
theorem dX4_row_23 : decode cX4_row 23 = .ok (.iload_n 2, 1) := by decide +kernel
theorem dX4_row_24 : decode cX4_row 24 = .ok (.invokevirtual 88, 3) := by decide +kernel
theorem dX4_row_27 : decode cX4_row 27 = .ok (.goto 8, 3) := by decide +kernel
theorem dX4_row_30 : decode cX4_row 30 = .ok (.aload_n 0, 1) := by decide +kernel
theorem dX4_row_31 : decode cX4_row 31 = .ok (.iconst 1, 1) := by decide +kernel
theorem dX4_row_32 : decode cX4_row 32 = .ok (.invokevirtual 49, 3) := by decide +kernel
theorem dX4_row_35 : decode cX4_row 35 = .ok (.ireturn, 1) := by decide +kernel
set_option maxRecDepth 20000 in
theorem ggX4_setLength_X4_isIn : GoodIn wsX4_setLength wsX4_isIn := goodIn_r _ [6] (by decide +kernel) (by decide +kernel)
set_option maxRecDepth 20000 in
theorem gX4_setLength_X4_isIn : GoodIn wsX4_setLength (va_wsS RX4 41 yX4_isIn wsX4_isIn) := goodIn_app (goodIn_of _ (by decide +kernel)) ggX4_setLength_X4_isIn
set_option maxRecDepth 20000 in
theorem ggX4_setLength_X4_no : GoodIn wsX4_setLength wsX4_no := goodIn_r _ [10, 1, 11, 12, 13, 14, 15, 16, 17, 18, 19] (by decide +kernel) (by decide +kernel)
set_option maxRecDepth 20000 in
theorem gX4_setLength_X4_no : GoodIn wsX4_setLength (wsV RX4 49 RX4 yX4_no wsX4_no) := goodIn_app (goodIn_of _ (by decide +kernel)) ggX4_setLength_X4_no
theorem dX4_setLength_0 : decode cX4_setLength 0 = .ok (.aload_n 0, 1) := by decide +kernel
theorem dX4_setLength_1 : decode cX4_setLength 1 = .ok (.iconst 0, 1) := by decide +kernel
theorem dX4_setLength_2 : decode cX4_setLength 2 = .ok (.putfield 35, 3) := by decide +kernel
theorem dX4_setLength_5 : decode cX4_setLength 5 = .ok (.iload_n 1, 1) := by decide +kernel
theorem dX4_setLength_6 : decode cX4_setLength 6 = .ok (.iconst 1, 1) := by decide +kernel
theorem dX4_setLength_7 : decode cX4_setLength 7 = .ok (.bipush 64, 2) := by decide +kernel
theorem dX4_setLength_9 : decode cX4_setLength 9 = .ok (.invokestatic 41, 3) := by decide +kernel
theorem dX4_setLength_12 : decode cX4_setLength 12 = .ok (.ifCond .ne 9, 3) := by decide +kernel
theorem dX4_setLength_15 : decode cX4_setLength 15 = .ok (.aload_n 0, 1) := by decide +kernel
theorem dX4_setLength_16 : decode cX4_setLength 16 = .ok (.iconst 1, 1) := by decide +kernel
theorem dX4_setLength_17 : decode cX4_setLength 17 = .ok (.invokevirtual 49, 3) := by decide +kernel
theorem dX4_setLength_20 : decode cX4_setLength 20 = .ok (.ireturn, 1) := by decide +kernel
theorem dX4_setLength_21 : decode cX4_setLength 21 = .ok (.aload_n 0, 1) := by decide +kernel
theorem dX4_setLength_22 : decode cX4_setLength 22 = .ok (.getfield 7, 3) := by decide +kernel
theorem dX4_setLength_25 : decode cX4_setLength 25 = .ok (.istore_n 2, 1) := by decide +kernel
theorem dX4_setLength_26 : decode cX4_setLength 26 = .ok (.aload_n 0, 1) := by decide +kernel
theorem dX4_setLength_27 : decode cX4_setLength 27 = .ok (.iload_n 1, 1) := by decide +kernel
theorem dX4_setLength_28 : decode cX4_setLength 28 = .ok (.putfield 7, 3) := by decide +kernel
theorem dX4_setLength_31 : decode cX4_setLength 31 = .ok (.iload_n 2, 1) := by decide +kernel
theorem dX4_setLength_32 : decode cX4_setLength 32 = .ok (.ireturn, 1) := by decide +kernel
set_option maxRecDepth 20000 in
theorem ggX4_note_X4_isIn : GoodIn wsX4_note wsX4_isIn := goodIn_r _ [12] (by decide +kernel) (by decide +kernel)
set_option maxRecDepth 20000 in
theorem gX4_note_X4_isIn : GoodIn wsX4_note (va_wsS RX4 41 yX4_isIn wsX4_isIn) := goodIn_app (goodIn_of _ (by decide +kernel)) ggX4_note_X4_isIn
set_option maxRecDepth 20000 in
theorem ggX4_note_X4_no : GoodIn wsX4_note wsX4_no := goodIn_r _ [16, 1, 17, 18, 19, 20, 21, 22, 23, 24, 25] (by decide +kernel) (by decide +kernel)
set_option maxRecDepth 20000 in
theorem gX4_note_X4_no : GoodIn wsX4_note (wsV RX4 49 RX4 yX4_no wsX4_no) := goodIn_app (goodIn_of _ (by decide +kernel)) ggX4_note_X4_no
theorem dX4_note_0 : decode cX4_note 0 = .ok (.aload_n 0, 1) := by decide +kernel
theorem dX4_note_1 : decode cX4_note 1 = .ok (.iconst 0, 1) := by decide +kernel
theorem dX4_note_2 : decode cX4_note 2 = .ok (.putfield 35, 3) := by decide +kernel
theorem dX4_note_5 : decode cX4_note 5 = .ok (.iload_n 1, 1) := by decide +kernel
theorem dX4_note_6 : decode cX4_note 6 = .ok (.iconst 0, 1) := by decide +kernel
theorem dX4_note_7 : decode cX4_note 7 = .ok (.bipush 63, 2) := by decide +kernel
theorem dX4_note_9 : decode cX4_note 9 = .ok (.invokestatic 41, 3) := by decide +kernel
theorem dX4_note_12 : decode cX4_note 12 = .ok (.ifCond .eq 23, 3) := by decide +kernel
theorem dX4_note_15 : decode cX4_note 15 = .ok (.iload_n 2, 1) := by decide +kernel
theorem dX4_note_16 : decode cX4_note 16 = .ok (.iconst 0, 1) := by decide +kernel
theorem dX4_note_17 : decode cX4_note 17 = .ok (.bipush 120, 2) := by decide +kernel
theorem dX4_note_19 : decode cX4_note 19 = .ok (.invokestatic 41, 3) := by decide +kernel
theorem dX4_note_22 : decode cX4_note 22 = .ok (.ifCond .eq 13, 3) := by decide +kernel
theorem dX4_note_25 : decode cX4_note 25 = .ok (.iload_n 3, 1) := by decide +kernel
theorem dX4_note_26 : decode cX4_note 26 = .ok (.iconst 1, 1) := by decide +kernel
theorem dX4_note_27 : decode cX4_note 27 = .ok (.bipush 9, 2) := by decide +kernel
theorem dX4_note_29 : decode cX4_note 29 = .ok (.invokestatic 41, 3) := by decide +kernel
theorem dX4_note_32 : decode cX4_note 32 = .ok (.ifCond .ne 9, 3) := by decide +kernel
theorem dX4_note_35 : decode cX4_note 35 = .ok (.aload_n 0, 1) := by decide +kernel
theorem dX4_note_36 : decode cX4_note 36 = .ok (.iconst 1, 1) := by decide +kernel
theorem dX4_note_37 : decode cX4_note 37 = .ok (.invokevirtual 49, 3) := by decide +kernel
theorem dX4_note_40 : decode cX4_note 40 = .ok (.ireturn, 1) := by decide +kernel
theorem dX4_note_41 : decode cX4_note 41 = .ok (.aload_n 0, 1) := by decide +kernel
theorem dX4_note_42 : decode cX4_note 42 = .ok (.getfield 91, 3) := by decide +kernel
theorem dX4_note_45 : decode cX4_note 45 = .ok (.bipush 32, 2) := by decide +kernel
theorem dX4_note_47 : decode cX4_note 47 = .ok (.if_icmp .ne 9, 3) := by decide +kernel
theorem dX4_note_50 : decode cX4_note 50 = .ok (.aload_n 0, 1) := by decide +kernel
theorem dX4_note_51 : decode cX4_note 51 = .ok (.iconst 2, 1) := by decide +kernel
theorem dX4_note_52 : decode cX4_note 52 = .ok (.invokevirtual 49, 3) := by decide +kernel
theorem dX4_note_55 : decode cX4_note 55 = .ok (.ireturn, 1) := by decide +kernel
theorem dX4_note_56 : decode cX4_note 56 = .ok (.iconst 3, 1) := by decide +kernel
theorem dX4_note_57 : decode cX4_note 57 = .ok (.newarray .int, 2) := by decide +kernel
theorem dX4_note_59 : decode cX4_note 59 = .ok (.dup, 1) := by decide +kernel
theorem dX4_note_60 : decode cX4_note 60 = .ok (.iconst 0, 1) := by decide +kernel
theorem dX4_note_61 : decode cX4_note 61 = .ok (.iload_n 1, 1) := by decide +kernel
theorem dX4_note_62 : decode cX4_note 62 = .ok (.iastore, 1) := by decide +kernel
theorem dX4_note_63 : decode cX4_note 63 = .ok (.dup, 1) := by decide +kernel
theorem dX4_note_64 : decode cX4_note 64 = .ok (.iconst 1, 1) := by decide +kernel
theorem dX4_note_65 : decode cX4_note 65 = .ok (.iload_n 2, 1) := by decide +kernel
theorem dX4_note_66 : decode cX4_note 66 = .ok (.iastore, 1) := by decide +kernel
theorem dX4_note_67 : decode cX4_note 67 = .ok (.dup, 1) := by decide +kernel
theorem dX4_note_68 : decode cX4_note 68 = .ok (.iconst 2, 1) := by decide +kernel
theorem dX4_note_69 : decode cX4_note 69 = .ok (.iload_n 3, 1) := by decide +kernel
theorem dX4_note_70 : decode cX4_note 70 = .ok (.iastore, 1) := by decide +kernel
theorem dX4_note_71 : decode cX4_note 71 = .ok (.astore 4, 2) := by decide +kernel
theorem dX4_note_73 : decode cX4_note 73 = .ok (.aload 4, 2) := by decide +kernel
theorem dX4_note_75 : decode cX4_note 75 = .ok (.iconst 0, 1) := by decide +kernel
theorem dX4_note_76 : decode cX4_note 76 = .ok (.aload_n 0, 1) := by decide +kernel
theorem dX4_note_77 : decode cX4_note 77 = .ok (.getfield 13, 3) := by decide +kernel
theorem dX4_note_80 : decode cX4_note 80 = .ok (.iconst 3, 1) := by decide +kernel
theorem dX4_note_81 : decode cX4_note 81 = .ok (.aload_n 0, 1) := by decide +kernel
theorem dX4_note_82 : decode cX4_note 82 = .ok (.getfield 91, 3) := by decide +kernel
theorem dX4_note_85 : decode cX4_note 85 = .ok (.imul, 1) := by decide +kernel
theorem dX4_note_86 : decode cX4_note 86 = .ok (.iconst 3, 1) := by decide +kernel
theorem dX4_note_87 : decode cX4_note 87 = .ok (.invokestatic 94, 3) := by decide +kernel
theorem dX4_note_90 : decode cX4_note 90 = .ok (.aload_n 0, 1) := by decide +kernel
theorem dX4_note_91 : decode cX4_note 91 = .ok (.dup, 1) := by decide +kernel
theorem dX4_note_92 : decode cX4_note 92 = .ok (.getfield 91, 3) := by decide +kernel
theorem dX4_note_95 : decode cX4_note 95 = .ok (.iconst 1, 1) := by decide +kernel
theorem dX4_note_96 : decode cX4_note 96 = .ok (.iadd, 1) := by decide +kernel
theorem dX4_note_97 : decode cX4_note 97 = .ok (.putfield 91, 3) := by decide +kernel
theorem dX4_note_100 : decode cX4_note 100 = .ok (.aload_n 0, 1) := by decide +kernel
theorem dX4_note_101 : decode cX4_note 101 = .ok (.getfield 91, 3) := by decide +kernel
theorem dX4_note_104 : decode cX4_note 104 = .ok (.ireturn, 1) := by decide +kernel
set_option maxRecDepth 20000 in
theorem ggX4_strike_X4_isIn : GoodIn wsX4_strike wsX4_isIn := goodIn_r _ [11] (by decide +kernel) (by decide +kernel)
set_option maxRecDepth 20000 in
theorem gX4_strike_X4_isIn : GoodIn wsX4_strike (va_wsS RX4 41 yX4_isIn wsX4_isIn) := goodIn_app (goodIn_of _ (by decide +kernel)) ggX4_strike_X4_isIn
set_option maxRecDepth 20000 in
theorem ggX4_strike_X4_no : GoodIn wsX4_strike wsX4_no := goodIn_r _ [15, 1, 16, 17, 18, 19, 20, 21, 22, 23, 24] (by decide +kernel) (by decide +kernel)
set_option maxRecDepth 20000 in
theorem gX4_strike_X4_no : GoodIn wsX4_strike (wsV RX4 49 RX4 yX4_no wsX4_no) := goodIn_app (goodIn_of _ (by decide +kernel)) ggX4_strike_X4_no
theorem dX4_strike_0 : decode cX4_strike 0 = .ok (.aload_n 0, 1) := by decide +kernel
theorem dX4_strike_1 : decode cX4_strike 1 = .ok (.iconst 0, 1) := by decide +kernel
theorem dX4_strike_2 : decode cX4_strike 2 = .ok (.putfield 35, 3) := by decide +kernel
theorem dX4_strike_5 : decode cX4_strike 5 = .ok (.iload_n 1, 1) := by decide +kernel
theorem dX4_strike_6 : decode cX4_strike 6 = .ok (.iconst 0, 1) := by decide +kernel
theorem dX4_strike_7 : decode cX4_strike 7 = .ok (.aload_n 0, 1) := by decide +kernel
theorem dX4_strike_8 : decode cX4_strike 8 = .ok (.getfield 91, 3) := by decide +kernel
theorem dX4_strike_11 : decode cX4_strike 11 = .ok (.iconst 1, 1) := by decide +kernel
theorem dX4_strike_12 : decode cX4_strike 12 = .ok (.isub, 1) := by decide +kernel
theorem dX4_strike_13 : decode cX4_strike 13 = .ok (.invokestatic 41, 3) := by decide +kernel
theorem dX4_strike_16 : decode cX4_strike 16 = .ok (.ifCond .ne 9, 3) := by decide +kernel
theorem dX4_strike_19 : decode cX4_strike 19 = .ok (.aload_n 0, 1) := by decide +kernel
theorem dX4_strike_20 : decode cX4_strike 20 = .ok (.iconst 1, 1) := by decide +kernel
theorem dX4_strike_21 : decode cX4_strike 21 = .ok (.invokevirtual 49, 3) := by decide +kernel
theorem dX4_strike_24 : decode cX4_strike 24 = .ok (.ireturn, 1) := by decide +kernel
theorem dX4_strike_25 : decode cX4_strike 25 = .ok (.aload_n 0, 1) := by decide +kernel
theorem dX4_strike_26 : decode cX4_strike 26 = .ok (.getfield 13, 3) := by decide +kernel
theorem dX4_strike_29 : decode cX4_strike 29 = .ok (.iconst 3, 1) := by decide +kernel
theorem dX4_strike_30 : decode cX4_strike 30 = .ok (.iload_n 1, 1) := by decide +kernel
theorem dX4_strike_31 : decode cX4_strike 31 = .ok (.imul, 1) := by decide +kernel
theorem dX4_strike_32 : decode cX4_strike 32 = .ok (.iconst 1, 1) := by decide +kernel
theorem dX4_strike_33 : decode cX4_strike 33 = .ok (.iadd, 1) := by decide +kernel
theorem dX4_strike_34 : decode cX4_strike 34 = .ok (.iaload, 1) := by decide +kernel
theorem dX4_strike_35 : decode cX4_strike 35 = .ok (.istore_n 2, 1) := by decide +kernel
theorem dX4_strike_36 : decode cX4_strike 36 = .ok (.aload_n 0, 1) := by decide +kernel
theorem dX4_strike_37 : decode cX4_strike 37 = .ok (.dup, 1) := by decide +kernel
theorem dX4_strike_38 : decode cX4_strike 38 = .ok (.getfield 91, 3) := by decide +kernel
theorem dX4_strike_41 : decode cX4_strike 41 = .ok (.iconst 1, 1) := by decide +kernel
theorem dX4_strike_42 : decode cX4_strike 42 = .ok (.isub, 1) := by decide +kernel
theorem dX4_strike_43 : decode cX4_strike 43 = .ok (.putfield 91, 3) := by decide +kernel
theorem dX4_strike_46 : decode cX4_strike 46 = .ok (.aload_n 0, 1) := by decide +kernel
theorem dX4_strike_47 : decode cX4_strike 47 = .ok (.getfield 13, 3) := by decide +kernel
theorem dX4_strike_50 : decode cX4_strike 50 = .ok (.iconst 3, 1) := by decide +kernel
theorem dX4_strike_51 : decode cX4_strike 51 = .ok (.iload_n 1, 1) := by decide +kernel
theorem dX4_strike_52 : decode cX4_strike 52 = .ok (.imul, 1) := by decide +kernel
theorem dX4_strike_53 : decode cX4_strike 53 = .ok (.iconst 3, 1) := by decide +kernel
theorem dX4_strike_54 : decode cX4_strike 54 = .ok (.iadd, 1) := by decide +kernel
theorem dX4_strike_55 : decode cX4_strike 55 = .ok (.aload_n 0, 1) := by decide +kernel
theorem dX4_strike_56 : decode cX4_strike 56 = .ok (.getfield 13, 3) := by decide +kernel
theorem dX4_strike_59 : decode cX4_strike 59 = .ok (.iconst 3, 1) := by decide +kernel
theorem dX4_strike_60 : decode cX4_strike 60 = .ok (.iload_n 1, 1) := by decide +kernel
theorem dX4_strike_61 : decode cX4_strike 61 = .ok (.imul, 1) := by decide +kernel
theorem dX4_strike_62 : decode cX4_strike 62 = .ok (.iconst 3, 1) := by decide +kernel
theorem dX4_strike_63 : decode cX4_strike 63 = .ok (.aload_n 0, 1) := by decide +kernel
theorem dX4_strike_64 : decode cX4_strike 64 = .ok (.getfield 91, 3) := by decide +kernel
theorem dX4_strike_67 : decode cX4_strike 67 = .ok (.iload_n 1, 1) := by decide +kernel
theorem dX4_strike_68 : decode cX4_strike 68 = .ok (.isub, 1) := by decide +kernel
theorem dX4_strike_69 : decode cX4_strike 69 = .ok (.imul, 1) := by decide +kernel
theorem dX4_strike_70 : decode cX4_strike 70 = .ok (.invokestatic 94, 3) := by decide +kernel
theorem dX4_strike_73 : decode cX4_strike 73 = .ok (.iload_n 2, 1) := by decide +kernel
theorem dX4_strike_74 : decode cX4_strike 74 = .ok (.ireturn, 1) := by decide +kernel
set_option maxRecDepth 20000 in
theorem ggX4_written_X4_isIn : GoodIn wsX4_written wsX4_isIn := goodIn_r _ [7] (by decide +kernel) (by decide +kernel)
set_option maxRecDepth 20000 in
theorem gX4_written_X4_isIn : GoodIn wsX4_written (va_wsS RX4 41 yX4_isIn wsX4_isIn) := goodIn_app (goodIn_of _ (by decide +kernel)) ggX4_written_X4_isIn
set_option maxRecDepth 20000 in
theorem ggX4_written_X4_no : GoodIn wsX4_written wsX4_no := goodIn_r _ [11, 1, 12, 13, 14, 15, 16, 17, 18, 19, 20] (by decide +kernel) (by decide +kernel)
set_option maxRecDepth 20000 in
theorem gX4_written_X4_no : GoodIn wsX4_written (wsV RX4 49 RX4 yX4_no wsX4_no) := goodIn_app (goodIn_of _ (by decide +kernel)) ggX4_written_X4_no
theorem dX4_written_0 : decode cX4_written 0 = .ok (.aload_n 0, 1) := by decide +kernel
theorem dX4_written_1 : decode cX4_written 1 = .ok (.iconst 0, 1) := by decide +kernel
theorem dX4_written_2 : decode cX4_written 2 = .ok (.putfield 35, 3) := by decide +kernel
theorem dX4_written_5 : decode cX4_written 5 = .ok (.iload_n 1, 1) := by decide +kernel
theorem dX4_written_6 : decode cX4_written 6 = .ok (.iconst 0, 1) := by decide +kernel
theorem dX4_written_7 : decode cX4_written 7 = .ok (.aload_n 0, 1) := by decide +kernel
theorem dX4_written_8 : decode cX4_written 8 = .ok (.getfield 91, 3) := by decide +kernel
theorem dX4_written_11 : decode cX4_written 11 = .ok (.iconst 1, 1) := by decide +kernel
theorem dX4_written_12 : decode cX4_written 12 = .ok (.isub, 1) := by decide +kernel
theorem dX4_written_13 : decode cX4_written 13 = .ok (.invokestatic 41, 3) := by decide +kernel
theorem dX4_written_16 : decode cX4_written 16 = .ok (.ifCond .eq 25, 3) := by decide +kernel
theorem dX4_written_19 : decode cX4_written 19 = .ok (.iload_n 2, 1) := by decide +kernel
theorem dX4_written_20 : decode cX4_written 20 = .ok (.iconst 0, 1) := by decide +kernel
theorem dX4_written_21 : decode cX4_written 21 = .ok (.iconst 2, 1) := by decide +kernel
theorem dX4_written_22 : decode cX4_written 22 = .ok (.invokestatic 41, 3) := by decide +kernel
theorem dX4_written_25 : decode cX4_written 25 = .ok (.ifCond .eq 16, 3) := by decide +kernel
theorem dX4_written_28 : decode cX4_written 28 = .ok (.aload_n 0, 1) := by decide +kernel
theorem dX4_written_29 : decode cX4_written 29 = .ok (.getfield 13, 3) := by decide +kernel
theorem dX4_written_32 : decode cX4_written 32 = .ok (.iconst 3, 1) := by decide +kernel
theorem dX4_written_33 : decode cX4_written 33 = .ok (.iload_n 1, 1) := by decide +kernel
theorem dX4_written_34 : decode cX4_written 34 = .ok (.imul, 1) := by decide +kernel
theorem dX4_written_35 : decode cX4_written 35 = .ok (.iload_n 2, 1) := by decide +kernel
theorem dX4_written_36 : decode cX4_written 36 = .ok (.iadd, 1) := by decide +kernel
theorem dX4_written_37 : decode cX4_written 37 = .ok (.iaload, 1) := by decide +kernel
theorem dX4_written_38 : decode cX4_written 38 = .ok (.goto 8, 3) := by decide +kernel
theorem dX4_written_41 : decode cX4_written 41 = .ok (.aload_n 0, 1) := by decide +kernel
theorem dX4_written_42 : decode cX4_written 42 = .ok (.iconst 1, 1) := by decide +kernel
theorem dX4_written_43 : decode cX4_written 43 = .ok (.invokevirtual 49, 3) := by decide +kernel
theorem dX4_written_46 : decode cX4_written 46 = .ok (.ireturn, 1) := by decide +kernel
set_option maxRecDepth 20000 in
theorem ggX4_play_X4_isIn : GoodIn wsX4_play wsX4_isIn := goodIn_r _ [6] (by decide +kernel) (by decide +kernel)
set_option maxRecDepth 20000 in
theorem gX4_play_X4_isIn : GoodIn wsX4_play (va_wsS RX4 41 yX4_isIn wsX4_isIn) := goodIn_app (goodIn_of _ (by decide +kernel)) ggX4_play_X4_isIn
set_option maxRecDepth 20000 in
theorem ggX4_play_X4_no : GoodIn wsX4_play wsX4_no := goodIn_r _ [10, 1, 50, 51, 52, 53, 54, 55, 56, 57, 58] (by decide +kernel) (by decide +kernel)
set_option maxRecDepth 20000 in
theorem gX4_play_X4_no : GoodIn wsX4_play (wsV RX4 49 RX4 yX4_no wsX4_no) := goodIn_app (goodIn_of _ (by decide +kernel)) ggX4_play_X4_no
set_option maxRecDepth 20000 in
theorem ggX4_play_X3_pass : GoodIn wsX4_play wsX3_pass := goodIn_r _ [15, 16, 17, 18, 19, 20, 21, 22, 23, 24, 25, 26, 27, 28, 29, 30, 31, 32, 14, 33, 34, 35, 36, 37, 38, 39, 40, 41, 42, 43, 44, 45, 46, 47, 48, 49, 59, 60, 61, 62, 63, 64, 65, 66, 67, 68, 69, 70, 50, 51, 52, 53, 54, 55, 56, 57, 58] (by decide +kernel) (by decide +kernel)
set_option maxRecDepth 20000 in
theorem gX4_play_X3_pass : GoodIn wsX4_play (wsV RX4 103 RX3 yX3_pass wsX3_pass) := goodIn_app (goodIn_of _ (by decide +kernel)) ggX4_play_X3_pass
theorem dX4_play_0 : decode cX4_play 0 = .ok (.aload_n 0, 1) := by decide +kernel
theorem dX4_play_1 : decode cX4_play 1 = .ok (.iconst 0, 1) := by decide +kernel
theorem dX4_play_2 : decode cX4_play 2 = .ok (.putfield 35, 3) := by decide +kernel
theorem dX4_play_5 : decode cX4_play 5 = .ok (.iload_n 1, 1) := by decide +kernel
theorem dX4_play_6 : decode cX4_play 6 = .ok (.iconst 1, 1) := by decide +kernel
theorem dX4_play_7 : decode cX4_play 7 = .ok (.sipush 200, 3) := by decide +kernel
theorem dX4_play_10 : decode cX4_play 10 = .ok (.invokestatic 41, 3) := by decide +kernel
theorem dX4_play_13 : decode cX4_play 13 = .ok (.ifCond .ne 9, 3) := by decide +kernel
theorem dX4_play_16 : decode cX4_play 16 = .ok (.aload_n 0, 1) := by decide +kernel
theorem dX4_play_17 : decode cX4_play 17 = .ok (.iconst 1, 1) := by decide +kernel
theorem dX4_play_18 : decode cX4_play 18 = .ok (.invokevirtual 49, 3) := by decide +kernel
theorem dX4_play_21 : decode cX4_play 21 = .ok (.ireturn, 1) := by decide +kernel
theorem dX4_play_22 : decode cX4_play 22 = .ok (.aload_n 0, 1) := by decide +kernel
theorem dX4_play_23 : decode cX4_play 23 = .ok (.getfield 28, 3) := by decide +kernel
theorem dX4_play_26 : decode cX4_play 26 = .ok (.getfield 100, 3) := by decide +kernel
theorem dX4_play_29 : decode cX4_play 29 = .ok (.istore_n 2, 1) := by decide +kernel
theorem dX4_play_30 : decode cX4_play 30 = .ok (.iconst 0, 1) := by decide +kernel
theorem dX4_play_31 : decode cX4_play 31 = .ok (.istore_n 3, 1) := by decide +kernel
theorem dX4_play_32 : decode cX4_play 32 = .ok (.iload_n 3, 1) := by decide +kernel
theorem dX4_play_33 : decode cX4_play 33 = .ok (.iload_n 1, 1) := by decide +kernel
theorem dX4_play_34 : decode cX4_play 34 = .ok (.if_icmp .ge 16, 3) := by decide +kernel
theorem dX4_play_37 : decode cX4_play 37 = .ok (.aload_n 0, 1) := by decide +kernel
theorem dX4_play_38 : decode cX4_play 38 = .ok (.getfield 28, 3) := by decide +kernel
theorem dX4_play_41 : decode cX4_play 41 = .ok (.invokevirtual 103, 3) := by decide +kernel
theorem dX4_play_44 : decode cX4_play 44 = .ok (.iinc 3 1, 3) := by decide +kernel
theorem dX4_play_47 : decode cX4_play 47 = .ok (.goto (-15), 3) := by decide +kernel
theorem dX4_play_50 : decode cX4_play 50 = .ok (.aload_n 0, 1) := by decide +kernel
theorem dX4_play_51 : decode cX4_play 51 = .ok (.getfield 28, 3) := by decide +kernel
theorem dX4_play_54 : decode cX4_play 54 = .ok (.getfield 100, 3) := by decide +kernel
theorem dX4_play_57 : decode cX4_play 57 = .ok (.iload_n 2, 1) := by decide +kernel
theorem dX4_play_58 : decode cX4_play 58 = .ok (.isub, 1) := by decide +kernel
theorem dX4_play_59 : decode cX4_play 59 = .ok (.ireturn, 1) := by decide +kernel
set_option maxRecDepth 20000 in
theorem ggX4_counted_X4_against : GoodIn wsX4_counted wsX4_against := goodIn_r _ [9, 2, 1, 10, 11, 12, 13, 14, 15, 16, 17, 18, 19, 20, 21, 22, 23, 24, 25, 26, 27, 28, 34, 35, 36, 37, 38, 39, 40, 41, 42, 43, 44, 45, 46, 47, 48, 49, 50, 51, 52, 53, 54] (by decide +kernel) (by decide +kernel)
set_option maxRecDepth 20000 in
theorem gX4_counted_X4_against : GoodIn wsX4_counted (wsV RX4 78 RX4 yX4_against wsX4_against) := goodIn_app (goodIn_of _ (by decide +kernel)) ggX4_counted_X4_against
set_option maxRecDepth 20000 in
theorem ggX4_counted_X3_cracked : GoodIn wsX4_counted wsX3_cracked := goodIn_r _ [32, 24, 33, 43, 44, 45, 46, 47, 48, 49, 50, 51, 52, 53, 54, 34, 35, 36, 37, 38, 39, 40, 41, 42] (by decide +kernel) (by decide +kernel)
set_option maxRecDepth 20000 in
theorem gX4_counted_X3_cracked : GoodIn wsX4_counted (wsV RX4 109 RX3 yX3_cracked wsX3_cracked) := goodIn_app (goodIn_of _ (by decide +kernel)) ggX4_counted_X3_cracked
theorem dX4_counted_0 : decode cX4_counted 0 = .ok (.iconst 0, 1) := by decide +kernel
theorem dX4_counted_1 : decode cX4_counted 1 = .ok (.istore_n 2, 1) := by decide +kernel
theorem dX4_counted_2 : decode cX4_counted 2 = .ok (.iconst 0, 1) := by decide +kernel
theorem dX4_counted_3 : decode cX4_counted 3 = .ok (.istore_n 3, 1) := by decide +kernel
theorem dX4_counted_4 : decode cX4_counted 4 = .ok (.iconst 0, 1) := by decide +kernel
theorem dX4_counted_5 : decode cX4_counted 5 = .ok (.istore 4, 2) := by decide +kernel
theorem dX4_counted_7 : decode cX4_counted 7 = .ok (.iload 4, 2) := by decide +kernel
theorem dX4_counted_9 : decode cX4_counted 9 = .ok (.iconst 4, 1) := by decide +kernel
theorem dX4_counted_10 : decode cX4_counted 10 = .ok (.if_icmp .ge 22, 3) := by decide +kernel
theorem dX4_counted_13 : decode cX4_counted 13 = .ok (.iload_n 2, 1) := by decide +kernel
theorem dX4_counted_14 : decode cX4_counted 14 = .ok (.aload_n 0, 1) := by decide +kernel
theorem dX4_counted_15 : decode cX4_counted 15 = .ok (.getfield 28, 3) := by decide +kernel
theorem dX4_counted_18 : decode cX4_counted 18 = .ok (.getfield 85, 3) := by decide +kernel
theorem dX4_counted_21 : decode cX4_counted 21 = .ok (.iload 4, 2) := by decide +kernel
theorem dX4_counted_23 : decode cX4_counted 23 = .ok (.iaload, 1) := by decide +kernel
theorem dX4_counted_24 : decode cX4_counted 24 = .ok (.iadd, 1) := by decide +kernel
theorem dX4_counted_25 : decode cX4_counted 25 = .ok (.istore_n 2, 1) := by decide +kernel
theorem dX4_counted_26 : decode cX4_counted 26 = .ok (.iinc 4 1, 3) := by decide +kernel
theorem dX4_counted_29 : decode cX4_counted 29 = .ok (.goto (-22), 3) := by decide +kernel
theorem dX4_counted_32 : decode cX4_counted 32 = .ok (.iconst 0, 1) := by decide +kernel
theorem dX4_counted_33 : decode cX4_counted 33 = .ok (.istore 4, 2) := by decide +kernel
theorem dX4_counted_35 : decode cX4_counted 35 = .ok (.iload 4, 2) := by decide +kernel
theorem dX4_counted_37 : decode cX4_counted 37 = .ok (.aload_n 0, 1) := by decide +kernel
theorem dX4_counted_38 : decode cX4_counted 38 = .ok (.getfield 38, 3) := by decide +kernel
theorem dX4_counted_41 : decode cX4_counted 41 = .ok (.if_icmp .ge 18, 3) := by decide +kernel
theorem dX4_counted_44 : decode cX4_counted 44 = .ok (.iload_n 3, 1) := by decide +kernel
theorem dX4_counted_45 : decode cX4_counted 45 = .ok (.aload_n 0, 1) := by decide +kernel
theorem dX4_counted_46 : decode cX4_counted 46 = .ok (.iload 4, 2) := by decide +kernel
theorem dX4_counted_48 : decode cX4_counted 48 = .ok (.invokevirtual 78, 3) := by decide +kernel
theorem dX4_counted_51 : decode cX4_counted 51 = .ok (.iadd, 1) := by decide +kernel
theorem dX4_counted_52 : decode cX4_counted 52 = .ok (.istore_n 3, 1) := by decide +kernel
theorem dX4_counted_53 : decode cX4_counted 53 = .ok (.iinc 4 1, 3) := by decide +kernel
theorem dX4_counted_56 : decode cX4_counted 56 = .ok (.goto (-21), 3) := by decide +kernel
theorem dX4_counted_59 : decode cX4_counted 59 = .ok (.bipush 9, 2) := by decide +kernel
theorem dX4_counted_61 : decode cX4_counted 61 = .ok (.newarray .int, 2) := by decide +kernel
theorem dX4_counted_63 : decode cX4_counted 63 = .ok (.dup, 1) := by decide +kernel
theorem dX4_counted_64 : decode cX4_counted 64 = .ok (.iconst 0, 1) := by decide +kernel
theorem dX4_counted_65 : decode cX4_counted 65 = .ok (.aload_n 0, 1) := by decide +kernel
theorem dX4_counted_66 : decode cX4_counted 66 = .ok (.getfield 28, 3) := by decide +kernel
theorem dX4_counted_69 : decode cX4_counted 69 = .ok (.getfield 106, 3) := by decide +kernel
theorem dX4_counted_72 : decode cX4_counted 72 = .ok (.iastore, 1) := by decide +kernel
theorem dX4_counted_73 : decode cX4_counted 73 = .ok (.dup, 1) := by decide +kernel
theorem dX4_counted_74 : decode cX4_counted 74 = .ok (.iconst 1, 1) := by decide +kernel
theorem dX4_counted_75 : decode cX4_counted 75 = .ok (.aload_n 0, 1) := by decide +kernel
theorem dX4_counted_76 : decode cX4_counted 76 = .ok (.getfield 38, 3) := by decide +kernel
theorem dX4_counted_79 : decode cX4_counted 79 = .ok (.iastore, 1) := by decide +kernel
theorem dX4_counted_80 : decode cX4_counted 80 = .ok (.dup, 1) := by decide +kernel
theorem dX4_counted_81 : decode cX4_counted 81 = .ok (.iconst 2, 1) := by decide +kernel
theorem dX4_counted_82 : decode cX4_counted 82 = .ok (.aload_n 0, 1) := by decide +kernel
theorem dX4_counted_83 : decode cX4_counted 83 = .ok (.getfield 28, 3) := by decide +kernel
theorem dX4_counted_86 : decode cX4_counted 86 = .ok (.invokevirtual 109, 3) := by decide +kernel
theorem dX4_counted_89 : decode cX4_counted 89 = .ok (.iastore, 1) := by decide +kernel
theorem dX4_counted_90 : decode cX4_counted 90 = .ok (.dup, 1) := by decide +kernel
theorem dX4_counted_91 : decode cX4_counted 91 = .ok (.iconst 3, 1) := by decide +kernel
theorem dX4_counted_92 : decode cX4_counted 92 = .ok (.aload_n 0, 1) := by decide +kernel
theorem dX4_counted_93 : decode cX4_counted 93 = .ok (.getfield 91, 3) := by decide +kernel
theorem dX4_counted_96 : decode cX4_counted 96 = .ok (.iastore, 1) := by decide +kernel
theorem dX4_counted_97 : decode cX4_counted 97 = .ok (.dup, 1) := by decide +kernel
theorem dX4_counted_98 : decode cX4_counted 98 = .ok (.iconst 4, 1) := by decide +kernel
theorem dX4_counted_99 : decode cX4_counted 99 = .ok (.aload_n 0, 1) := by decide +kernel
theorem dX4_counted_100 : decode cX4_counted 100 = .ok (.getfield 28, 3) := by decide +kernel
theorem dX4_counted_103 : decode cX4_counted 103 = .ok (.getfield 100, 3) := by decide +kernel
theorem dX4_counted_106 : decode cX4_counted 106 = .ok (.iastore, 1) := by decide +kernel
theorem dX4_counted_107 : decode cX4_counted 107 = .ok (.dup, 1) := by decide +kernel
theorem dX4_counted_108 : decode cX4_counted 108 = .ok (.iconst 5, 1) := by decide +kernel
theorem dX4_counted_109 : decode cX4_counted 109 = .ok (.aload_n 0, 1) := by decide +kernel
theorem dX4_counted_110 : decode cX4_counted 110 = .ok (.getfield 28, 3) := by decide +kernel
theorem dX4_counted_113 : decode cX4_counted 113 = .ok (.getfield 113, 3) := by decide +kernel
theorem dX4_counted_116 : decode cX4_counted 116 = .ok (.iastore, 1) := by decide +kernel
theorem dX4_counted_117 : decode cX4_counted 117 = .ok (.dup, 1) := by decide +kernel
theorem dX4_counted_118 : decode cX4_counted 118 = .ok (.bipush 6, 2) := by decide +kernel
theorem dX4_counted_120 : decode cX4_counted 120 = .ok (.aload_n 0, 1) := by decide +kernel
theorem dX4_counted_121 : decode cX4_counted 121 = .ok (.getfield 28, 3) := by decide +kernel
theorem dX4_counted_124 : decode cX4_counted 124 = .ok (.getfield 116, 3) := by decide +kernel
theorem dX4_counted_127 : decode cX4_counted 127 = .ok (.iastore, 1) := by decide +kernel
theorem dX4_counted_128 : decode cX4_counted 128 = .ok (.dup, 1) := by decide +kernel
theorem dX4_counted_129 : decode cX4_counted 129 = .ok (.bipush 7, 2) := by decide +kernel
theorem dX4_counted_131 : decode cX4_counted 131 = .ok (.iload_n 2, 1) := by decide +kernel
theorem dX4_counted_132 : decode cX4_counted 132 = .ok (.iastore, 1) := by decide +kernel
theorem dX4_counted_133 : decode cX4_counted 133 = .ok (.dup, 1) := by decide +kernel
theorem dX4_counted_134 : decode cX4_counted 134 = .ok (.bipush 8, 2) := by decide +kernel
theorem dX4_counted_136 : decode cX4_counted 136 = .ok (.iload_n 3, 1) := by decide +kernel
theorem dX4_counted_137 : decode cX4_counted 137 = .ok (.iconst 2, 1) := by decide +kernel
theorem dX4_counted_138 : decode cX4_counted 138 = .ok (.idiv, 1) := by decide +kernel
theorem dX4_counted_139 : decode cX4_counted 139 = .ok (.iastore, 1) := by decide +kernel
theorem dX4_counted_140 : decode cX4_counted 140 = .ok (.astore 4, 2) := by decide +kernel
theorem dX4_counted_142 : decode cX4_counted 142 = .ok (.aload 4, 2) := by decide +kernel
theorem dX4_counted_144 : decode cX4_counted 144 = .ok (.iload_n 1, 1) := by decide +kernel
theorem dX4_counted_145 : decode cX4_counted 145 = .ok (.iaload, 1) := by decide +kernel
theorem dX4_counted_146 : decode cX4_counted 146 = .ok (.ireturn, 1) := by decide +kernel
set_option maxRecDepth 20000 in
theorem ggX4_count_X4_isIn : GoodIn wsX4_count wsX4_isIn := goodIn_r _ [5] (by decide +kernel) (by decide +kernel)
set_option maxRecDepth 20000 in
theorem gX4_count_X4_isIn : GoodIn wsX4_count (va_wsS RX4 41 yX4_isIn wsX4_isIn) := goodIn_app (goodIn_of _ (by decide +kernel)) ggX4_count_X4_isIn
set_option maxRecDepth 20000 in
theorem ggX4_count_X4_counted : GoodIn wsX4_count wsX4_counted := goodIn_r _ [9, 10, 11, 12, 13, 14, 15, 16, 4, 17, 18, 19, 20, 21, 22, 23, 24, 25, 26, 27, 28, 29, 30, 31, 32, 33, 34, 35, 36, 37, 38, 39, 40, 41, 46, 47, 48, 49, 50, 51, 52, 53, 54, 55, 56, 57, 58, 59, 60, 61, 62, 63, 64, 65, 66] (by decide +kernel) (by decide +kernel)
set_option maxRecDepth 20000 in
theorem gX4_count_X4_counted : GoodIn wsX4_count (wsV RX4 119 RX4 yX4_counted wsX4_counted) := goodIn_app (goodIn_of _ (by decide +kernel)) ggX4_count_X4_counted
set_option maxRecDepth 20000 in
theorem ggX4_count_X4_no : GoodIn wsX4_count wsX4_no := goodIn_r _ [45, 1, 46, 47, 48, 49, 50, 51, 52, 53, 54] (by decide +kernel) (by decide +kernel)
set_option maxRecDepth 20000 in
theorem gX4_count_X4_no : GoodIn wsX4_count (wsV RX4 49 RX4 yX4_no wsX4_no) := goodIn_app (goodIn_of _ (by decide +kernel)) ggX4_count_X4_no
theorem dX4_count_0 : decode cX4_count 0 = .ok (.aload_n 0, 1) := by decide +kernel
theorem dX4_count_1 : decode cX4_count 1 = .ok (.iconst 0, 1) := by decide +kernel
theorem dX4_count_2 : decode cX4_count 2 = .ok (.putfield 35, 3) := by decide +kernel
theorem dX4_count_5 : decode cX4_count 5 = .ok (.iload_n 1, 1) := by decide +kernel
theorem dX4_count_6 : decode cX4_count 6 = .ok (.iconst 0, 1) := by decide +kernel
theorem dX4_count_7 : decode cX4_count 7 = .ok (.bipush 8, 2) := by decide +kernel
theorem dX4_count_9 : decode cX4_count 9 = .ok (.invokestatic 41, 3) := by decide +kernel
theorem dX4_count_12 : decode cX4_count 12 = .ok (.ifCond .eq 11, 3) := by decide +kernel
theorem dX4_count_15 : decode cX4_count 15 = .ok (.aload_n 0, 1) := by decide +kernel
theorem dX4_count_16 : decode cX4_count 16 = .ok (.iload_n 1, 1) := by decide +kernel
theorem dX4_count_17 : decode cX4_count 17 = .ok (.invokevirtual 119, 3) := by decide +kernel
theorem dX4_count_20 : decode cX4_count 20 = .ok (.goto 8, 3) := by decide +kernel
theorem dX4_count_23 : decode cX4_count 23 = .ok (.aload_n 0, 1) := by decide +kernel
theorem dX4_count_24 : decode cX4_count 24 = .ok (.iconst 1, 1) := by decide +kernel
theorem dX4_count_25 : decode cX4_count 25 = .ok (.invokevirtual 49, 3) := by decide +kernel
theorem dX4_count_28 : decode cX4_count 28 = .ok (.ireturn, 1) := by decide +kernel
set_option maxRecDepth 20000 in
theorem ggX4_needed_X4_isIn : GoodIn wsX4_needed wsX4_isIn := goodIn_r _ [5] (by decide +kernel) (by decide +kernel)
set_option maxRecDepth 20000 in
theorem gX4_needed_X4_isIn : GoodIn wsX4_needed (va_wsS RX4 41 yX4_isIn wsX4_isIn) := goodIn_app (goodIn_of _ (by decide +kernel)) ggX4_needed_X4_isIn
theorem dX4_needed_0 : decode cX4_needed 0 = .ok (.iconst 4, 1) := by decide +kernel
theorem dX4_needed_1 : decode cX4_needed 1 = .ok (.aload_n 0, 1) := by decide +kernel
theorem dX4_needed_2 : decode cX4_needed 2 = .ok (.getfield 20, 3) := by decide +kernel
theorem dX4_needed_5 : decode cX4_needed 5 = .ok (.iload_n 1, 1) := by decide +kernel
theorem dX4_needed_6 : decode cX4_needed 6 = .ok (.iaload, 1) := by decide +kernel
theorem dX4_needed_7 : decode cX4_needed 7 = .ok (.imul, 1) := by decide +kernel
theorem dX4_needed_8 : decode cX4_needed 8 = .ok (.bipush 120, 2) := by decide +kernel
theorem dX4_needed_10 : decode cX4_needed 10 = .ok (.bipush 8, 2) := by decide +kernel
theorem dX4_needed_12 : decode cX4_needed 12 = .ok (.aload_n 0, 1) := by decide +kernel
theorem dX4_needed_13 : decode cX4_needed 13 = .ok (.getfield 20, 3) := by decide +kernel
theorem dX4_needed_16 : decode cX4_needed 16 = .ok (.iload_n 1, 1) := by decide +kernel
theorem dX4_needed_17 : decode cX4_needed 17 = .ok (.iaload, 1) := by decide +kernel
theorem dX4_needed_18 : decode cX4_needed 18 = .ok (.imul, 1) := by decide +kernel
theorem dX4_needed_19 : decode cX4_needed 19 = .ok (.isub, 1) := by decide +kernel
theorem dX4_needed_20 : decode cX4_needed 20 = .ok (.iload_n 2, 1) := by decide +kernel
theorem dX4_needed_21 : decode cX4_needed 21 = .ok (.isub, 1) := by decide +kernel
theorem dX4_needed_22 : decode cX4_needed 22 = .ok (.imul, 1) := by decide +kernel
theorem dX4_needed_23 : decode cX4_needed 23 = .ok (.istore_n 3, 1) := by decide +kernel
theorem dX4_needed_24 : decode cX4_needed 24 = .ok (.iload_n 3, 1) := by decide +kernel
theorem dX4_needed_25 : decode cX4_needed 25 = .ok (.iconst 0, 1) := by decide +kernel
theorem dX4_needed_26 : decode cX4_needed 26 = .ok (.bipush 100, 2) := by decide +kernel
theorem dX4_needed_28 : decode cX4_needed 28 = .ok (.aload_n 0, 1) := by decide +kernel
theorem dX4_needed_29 : decode cX4_needed 29 = .ok (.getfield 20, 3) := by decide +kernel
theorem dX4_needed_32 : decode cX4_needed 32 = .ok (.iload_n 1, 1) := by decide +kernel
theorem dX4_needed_33 : decode cX4_needed 33 = .ok (.iaload, 1) := by decide +kernel
theorem dX4_needed_34 : decode cX4_needed 34 = .ok (.imul, 1) := by decide +kernel
theorem dX4_needed_35 : decode cX4_needed 35 = .ok (.invokestatic 41, 3) := by decide +kernel
theorem dX4_needed_38 : decode cX4_needed 38 = .ok (.ifCond .eq 7, 3) := by decide +kernel
theorem dX4_needed_41 : decode cX4_needed 41 = .ok (.iload_n 3, 1) := by decide +kernel
theorem dX4_needed_42 : decode cX4_needed 42 = .ok (.goto 4, 3) := by decide +kernel
theorem dX4_needed_45 : decode cX4_needed 45 = .ok (.iconst (-1), 1) := by decide +kernel
theorem dX4_needed_46 : decode cX4_needed 46 = .ok (.ireturn, 1) := by decide +kernel
set_option maxRecDepth 20000 in
theorem ggX4_needs_X4_isGlass : GoodIn wsX4_needs wsX4_isGlass := goodIn_r _ [6, 7, 8, 9, 5, 10, 20, 21, 22, 23, 24, 25, 26, 27, 28] (by decide +kernel) (by decide +kernel)
set_option maxRecDepth 20000 in
theorem gX4_needs_X4_isGlass : GoodIn wsX4_needs (wsV RX4 56 RX4 yX4_isGlass wsX4_isGlass) := goodIn_app (goodIn_of _ (by decide +kernel)) ggX4_needs_X4_isGlass
set_option maxRecDepth 20000 in
theorem ggX4_needs_X4_no : GoodIn wsX4_needs wsX4_no := goodIn_r _ [14, 1, 20, 21, 22, 23, 24, 25, 26, 27, 28] (by decide +kernel) (by decide +kernel)
set_option maxRecDepth 20000 in
theorem gX4_needs_X4_no : GoodIn wsX4_needs (wsV RX4 49 RX4 yX4_no wsX4_no) := goodIn_app (goodIn_of _ (by decide +kernel)) ggX4_needs_X4_no
set_option maxRecDepth 20000 in
theorem ggX4_needs_X4_isIn : GoodIn wsX4_needs wsX4_isIn := goodIn_r _ [10] (by decide +kernel) (by decide +kernel)
set_option maxRecDepth 20000 in
theorem gX4_needs_X4_isIn : GoodIn wsX4_needs (va_wsS RX4 41 yX4_isIn wsX4_isIn) := goodIn_app (goodIn_of _ (by decide +kernel)) ggX4_needs_X4_isIn
set_option maxRecDepth 20000 in
theorem ggX4_needs_X4_needed : GoodIn wsX4_needs wsX4_needed := goodIn_r _ [18, 19, 8, 9, 5, 10, 20, 21, 22, 23, 24, 25, 26, 27, 28] (by decide +kernel) (by decide +kernel)
set_option maxRecDepth 20000 in
theorem gX4_needs_X4_needed : GoodIn wsX4_needs (wsV RX4 122 RX4 yX4_needed wsX4_needed) := goodIn_app (goodIn_of _ (by decide +kernel)) ggX4_needs_X4_needed
theorem dX4_needs_0 : decode cX4_needs 0 = .ok (.aload_n 0, 1) := by decide +kernel
theorem dX4_needs_1 : decode cX4_needs 1 = .ok (.iconst 0, 1) := by decide +kernel
theorem dX4_needs_2 : decode cX4_needs 2 = .ok (.putfield 35, 3) := by decide +kernel
theorem dX4_needs_5 : decode cX4_needs 5 = .ok (.aload_n 0, 1) := by decide +kernel
theorem dX4_needs_6 : decode cX4_needs 6 = .ok (.iload_n 1, 1) := by decide +kernel
theorem dX4_needs_7 : decode cX4_needs 7 = .ok (.invokevirtual 56, 3) := by decide +kernel
theorem dX4_needs_10 : decode cX4_needs 10 = .ok (.ifCond .ne 9, 3) := by decide +kernel
theorem dX4_needs_13 : decode cX4_needs 13 = .ok (.aload_n 0, 1) := by decide +kernel
theorem dX4_needs_14 : decode cX4_needs 14 = .ok (.iconst 1, 1) := by decide +kernel
theorem dX4_needs_15 : decode cX4_needs 15 = .ok (.invokevirtual 49, 3) := by decide +kernel
theorem dX4_needs_18 : decode cX4_needs 18 = .ok (.ireturn, 1) := by decide +kernel
theorem dX4_needs_19 : decode cX4_needs 19 = .ok (.iload_n 2, 1) := by decide +kernel
theorem dX4_needs_20 : decode cX4_needs 20 = .ok (.iconst 0, 1) := by decide +kernel
theorem dX4_needs_21 : decode cX4_needs 21 = .ok (.bipush 120, 2) := by decide +kernel
theorem dX4_needs_23 : decode cX4_needs 23 = .ok (.invokestatic 41, 3) := by decide +kernel
theorem dX4_needs_26 : decode cX4_needs 26 = .ok (.ifCond .eq 12, 3) := by decide +kernel
theorem dX4_needs_29 : decode cX4_needs 29 = .ok (.aload_n 0, 1) := by decide +kernel
theorem dX4_needs_30 : decode cX4_needs 30 = .ok (.iload_n 1, 1) := by decide +kernel
theorem dX4_needs_31 : decode cX4_needs 31 = .ok (.iload_n 2, 1) := by decide +kernel
theorem dX4_needs_32 : decode cX4_needs 32 = .ok (.invokevirtual 122, 3) := by decide +kernel
theorem dX4_needs_35 : decode cX4_needs 35 = .ok (.goto 8, 3) := by decide +kernel
theorem dX4_needs_38 : decode cX4_needs 38 = .ok (.aload_n 0, 1) := by decide +kernel
theorem dX4_needs_39 : decode cX4_needs 39 = .ok (.iconst 2, 1) := by decide +kernel
theorem dX4_needs_40 : decode cX4_needs 40 = .ok (.invokevirtual 49, 3) := by decide +kernel
theorem dX4_needs_43 : decode cX4_needs 43 = .ok (.ireturn, 1) := by decide +kernel
set_option maxRecDepth 20000 in
theorem ggX4_run_X3_pass : GoodIn wsX4_run wsX3_pass := goodIn_r _ [6, 7, 8, 9, 10, 11, 12, 13, 14, 15, 16, 17, 18, 19, 20, 21, 22, 23, 5, 24, 25, 26, 27, 28, 29, 30, 31, 32, 33, 34, 35, 36, 37, 38, 39, 40, 50, 51, 52, 53, 54, 55, 56, 57, 58, 59, 60, 61, 41, 42, 43, 44, 45, 46, 47, 48, 49] (by decide +kernel) (by decide +kernel)
set_option maxRecDepth 20000 in
theorem gX4_run_X3_pass : GoodIn wsX4_run (wsV RX4 103 RX3 yX3_pass wsX3_pass) := goodIn_app (goodIn_of _ (by decide +kernel)) ggX4_run_X3_pass
theorem dX4_run_0 : decode cX4_run 0 = .ok (.iconst 0, 1) := by decide +kernel
theorem dX4_run_1 : decode cX4_run 1 = .ok (.istore_n 2, 1) := by decide +kernel
theorem dX4_run_2 : decode cX4_run 2 = .ok (.iload_n 2, 1) := by decide +kernel
theorem dX4_run_3 : decode cX4_run 3 = .ok (.iload_n 1, 1) := by decide +kernel
theorem dX4_run_4 : decode cX4_run 4 = .ok (.if_icmp .ge 16, 3) := by decide +kernel
theorem dX4_run_7 : decode cX4_run 7 = .ok (.aload_n 0, 1) := by decide +kernel
theorem dX4_run_8 : decode cX4_run 8 = .ok (.getfield 32, 3) := by decide +kernel
theorem dX4_run_11 : decode cX4_run 11 = .ok (.invokevirtual 103, 3) := by decide +kernel
theorem dX4_run_14 : decode cX4_run 14 = .ok (.iinc 2 1, 3) := by decide +kernel
theorem dX4_run_17 : decode cX4_run 17 = .ok (.goto (-15), 3) := by decide +kernel
theorem dX4_run_20 : decode cX4_run 20 = .ok (.return_, 1) := by decide +kernel
set_option maxRecDepth 20000 in
theorem ggX4_foresee_X4_isIn : GoodIn wsX4_foresee wsX4_isIn := goodIn_r _ [8] (by decide +kernel) (by decide +kernel)
set_option maxRecDepth 20000 in
theorem gX4_foresee_X4_isIn : GoodIn wsX4_foresee (va_wsS RX4 41 yX4_isIn wsX4_isIn) := goodIn_app (goodIn_of _ (by decide +kernel)) ggX4_foresee_X4_isIn
set_option maxRecDepth 20000 in
theorem ggX4_foresee_X4_no : GoodIn wsX4_foresee wsX4_no := goodIn_r _ [12, 1, 72, 73, 74, 75, 76, 77, 78, 79, 80] (by decide +kernel) (by decide +kernel)
set_option maxRecDepth 20000 in
theorem gX4_foresee_X4_no : GoodIn wsX4_foresee (wsV RX4 49 RX4 yX4_no wsX4_no) := goodIn_app (goodIn_of _ (by decide +kernel)) ggX4_foresee_X4_no
set_option maxRecDepth 20000 in
theorem ggX4_foresee_X3_become : GoodIn wsX4_foresee wsX3_become := goodIn_r _ [17, 18, 19, 20, 21, 22, 23, 24, 25, 26, 27, 28, 29, 30, 16, 31, 32, 33, 34, 35, 81, 82, 83, 84, 85, 86, 87, 88, 89, 90, 91, 92] (by decide +kernel) (by decide +kernel)
set_option maxRecDepth 20000 in
theorem gX4_foresee_X3_become : GoodIn wsX4_foresee (wsV RX4 125 RX3 yX3_become wsX3_become) := goodIn_app (goodIn_of _ (by decide +kernel)) ggX4_foresee_X3_become
set_option maxRecDepth 20000 in
theorem ggX4_foresee_X4_run : GoodIn wsX4_foresee wsX4_run := goodIn_r _ [39, 2, 40, 41, 42, 16, 43, 22, 23, 44, 45, 46, 47, 48, 49, 18, 26, 50, 51, 52, 24, 53, 54, 55, 56, 25, 21, 19, 20, 27, 57, 58, 59, 60, 61, 62, 63, 64, 65, 66, 67, 72, 73, 74, 75, 76, 77, 78, 79, 80, 81, 82, 83, 84, 85, 86, 87, 88, 89, 90, 91, 92] (by decide +kernel) (by decide +kernel)
set_option maxRecDepth 20000 in
theorem gX4_foresee_X4_run : GoodIn wsX4_foresee (wsV RX4 129 RX4 yX4_run wsX4_run) := goodIn_app (goodIn_of _ (by decide +kernel)) ggX4_foresee_X4_run
set_option maxRecDepth 20000 in
theorem ggX4_foresee_X3_cracked : GoodIn wsX4_foresee wsX3_cracked := goodIn_r _ [71, 49, 25, 81, 82, 83, 84, 85, 86, 87, 88, 89, 90, 91, 92, 72, 73, 74, 75, 76, 77, 78, 79, 80] (by decide +kernel) (by decide +kernel)
set_option maxRecDepth 20000 in
theorem gX4_foresee_X3_cracked : GoodIn wsX4_foresee (wsV RX4 109 RX3 yX3_cracked wsX3_cracked) := goodIn_app (goodIn_of _ (by decide +kernel)) ggX4_foresee_X3_cracked
theorem dX4_foresee_0 : decode cX4_foresee 0 = .ok (.aload_n 0, 1) := by decide +kernel
theorem dX4_foresee_1 : decode cX4_foresee 1 = .ok (.iconst 0, 1) := by decide +kernel
theorem dX4_foresee_2 : decode cX4_foresee 2 = .ok (.putfield 35, 3) := by decide +kernel
theorem dX4_foresee_5 : decode cX4_foresee 5 = .ok (.iload_n 1, 1) := by decide +kernel
theorem dX4_foresee_6 : decode cX4_foresee 6 = .ok (.iconst 1, 1) := by decide +kernel
theorem dX4_foresee_7 : decode cX4_foresee 7 = .ok (.sipush 150, 3) := by decide +kernel
theorem dX4_foresee_10 : decode cX4_foresee 10 = .ok (.invokestatic 41, 3) := by decide +kernel
theorem dX4_foresee_13 : decode cX4_foresee 13 = .ok (.ifCond .ne 9, 3) := by decide +kernel
theorem dX4_foresee_16 : decode cX4_foresee 16 = .ok (.aload_n 0, 1) := by decide +kernel
theorem dX4_foresee_17 : decode cX4_foresee 17 = .ok (.iconst 1, 1) := by decide +kernel
theorem dX4_foresee_18 : decode cX4_foresee 18 = .ok (.invokevirtual 49, 3) := by decide +kernel
theorem dX4_foresee_21 : decode cX4_foresee 21 = .ok (.ireturn, 1) := by decide +kernel
theorem dX4_foresee_22 : decode cX4_foresee 22 = .ok (.iload_n 2, 1) := by decide +kernel
theorem dX4_foresee_23 : decode cX4_foresee 23 = .ok (.iconst 0, 1) := by decide +kernel
theorem dX4_foresee_24 : decode cX4_foresee 24 = .ok (.iconst 3, 1) := by decide +kernel
theorem dX4_foresee_25 : decode cX4_foresee 25 = .ok (.invokestatic 41, 3) := by decide +kernel
theorem dX4_foresee_28 : decode cX4_foresee 28 = .ok (.ifCond .ne 9, 3) := by decide +kernel
theorem dX4_foresee_31 : decode cX4_foresee 31 = .ok (.aload_n 0, 1) := by decide +kernel
theorem dX4_foresee_32 : decode cX4_foresee 32 = .ok (.iconst 2, 1) := by decide +kernel
theorem dX4_foresee_33 : decode cX4_foresee 33 = .ok (.invokevirtual 49, 3) := by decide +kernel
theorem dX4_foresee_36 : decode cX4_foresee 36 = .ok (.ireturn, 1) := by decide +kernel
theorem dX4_foresee_37 : decode cX4_foresee 37 = .ok (.aload_n 0, 1) := by decide +kernel
theorem dX4_foresee_38 : decode cX4_foresee 38 = .ok (.getfield 32, 3) := by decide +kernel
theorem dX4_foresee_41 : decode cX4_foresee 41 = .ok (.aload_n 0, 1) := by decide +kernel
theorem dX4_foresee_42 : decode cX4_foresee 42 = .ok (.getfield 28, 3) := by decide +kernel
theorem dX4_foresee_45 : decode cX4_foresee 45 = .ok (.invokevirtual 125, 3) := by decide +kernel
theorem dX4_foresee_48 : decode cX4_foresee 48 = .ok (.aload_n 0, 1) := by decide +kernel
theorem dX4_foresee_49 : decode cX4_foresee 49 = .ok (.iload_n 1, 1) := by decide +kernel
theorem dX4_foresee_50 : decode cX4_foresee 50 = .ok (.invokevirtual 129, 3) := by decide +kernel
theorem dX4_foresee_53 : decode cX4_foresee 53 = .ok (.iconst 4, 1) := by decide +kernel
theorem dX4_foresee_54 : decode cX4_foresee 54 = .ok (.newarray .int, 2) := by decide +kernel
theorem dX4_foresee_56 : decode cX4_foresee 56 = .ok (.dup, 1) := by decide +kernel
theorem dX4_foresee_57 : decode cX4_foresee 57 = .ok (.iconst 0, 1) := by decide +kernel
theorem dX4_foresee_58 : decode cX4_foresee 58 = .ok (.aload_n 0, 1) := by decide +kernel
theorem dX4_foresee_59 : decode cX4_foresee 59 = .ok (.getfield 32, 3) := by decide +kernel
theorem dX4_foresee_62 : decode cX4_foresee 62 = .ok (.getfield 100, 3) := by decide +kernel
theorem dX4_foresee_65 : decode cX4_foresee 65 = .ok (.aload_n 0, 1) := by decide +kernel
theorem dX4_foresee_66 : decode cX4_foresee 66 = .ok (.getfield 28, 3) := by decide +kernel
theorem dX4_foresee_69 : decode cX4_foresee 69 = .ok (.getfield 100, 3) := by decide +kernel
theorem dX4_foresee_72 : decode cX4_foresee 72 = .ok (.isub, 1) := by decide +kernel
theorem dX4_foresee_73 : decode cX4_foresee 73 = .ok (.iastore, 1) := by decide +kernel
theorem dX4_foresee_74 : decode cX4_foresee 74 = .ok (.dup, 1) := by decide +kernel
theorem dX4_foresee_75 : decode cX4_foresee 75 = .ok (.iconst 1, 1) := by decide +kernel
theorem dX4_foresee_76 : decode cX4_foresee 76 = .ok (.aload_n 0, 1) := by decide +kernel
theorem dX4_foresee_77 : decode cX4_foresee 77 = .ok (.getfield 32, 3) := by decide +kernel
theorem dX4_foresee_80 : decode cX4_foresee 80 = .ok (.getfield 113, 3) := by decide +kernel
theorem dX4_foresee_83 : decode cX4_foresee 83 = .ok (.aload_n 0, 1) := by decide +kernel
theorem dX4_foresee_84 : decode cX4_foresee 84 = .ok (.getfield 28, 3) := by decide +kernel
theorem dX4_foresee_87 : decode cX4_foresee 87 = .ok (.getfield 113, 3) := by decide +kernel
theorem dX4_foresee_90 : decode cX4_foresee 90 = .ok (.isub, 1) := by decide +kernel
theorem dX4_foresee_91 : decode cX4_foresee 91 = .ok (.iastore, 1) := by decide +kernel
theorem dX4_foresee_92 : decode cX4_foresee 92 = .ok (.dup, 1) := by decide +kernel
theorem dX4_foresee_93 : decode cX4_foresee 93 = .ok (.iconst 2, 1) := by decide +kernel
theorem dX4_foresee_94 : decode cX4_foresee 94 = .ok (.aload_n 0, 1) := by decide +kernel
theorem dX4_foresee_95 : decode cX4_foresee 95 = .ok (.getfield 32, 3) := by decide +kernel
theorem dX4_foresee_98 : decode cX4_foresee 98 = .ok (.getfield 116, 3) := by decide +kernel
theorem dX4_foresee_101 : decode cX4_foresee 101 = .ok (.aload_n 0, 1) := by decide +kernel
theorem dX4_foresee_102 : decode cX4_foresee 102 = .ok (.getfield 28, 3) := by decide +kernel
theorem dX4_foresee_105 : decode cX4_foresee 105 = .ok (.getfield 116, 3) := by decide +kernel
theorem dX4_foresee_108 : decode cX4_foresee 108 = .ok (.isub, 1) := by decide +kernel
theorem dX4_foresee_109 : decode cX4_foresee 109 = .ok (.iastore, 1) := by decide +kernel
theorem dX4_foresee_110 : decode cX4_foresee 110 = .ok (.dup, 1) := by decide +kernel
theorem dX4_foresee_111 : decode cX4_foresee 111 = .ok (.iconst 3, 1) := by decide +kernel
theorem dX4_foresee_112 : decode cX4_foresee 112 = .ok (.aload_n 0, 1) := by decide +kernel
theorem dX4_foresee_113 : decode cX4_foresee 113 = .ok (.getfield 32, 3) := by decide +kernel
theorem dX4_foresee_116 : decode cX4_foresee 116 = .ok (.invokevirtual 109, 3) := by decide +kernel
theorem dX4_foresee_119 : decode cX4_foresee 119 = .ok (.iastore, 1) := by decide +kernel
theorem dX4_foresee_120 : decode cX4_foresee 120 = .ok (.astore_n 3, 1) := by decide +kernel
theorem dX4_foresee_121 : decode cX4_foresee 121 = .ok (.aload_n 3, 1) := by decide +kernel
theorem dX4_foresee_122 : decode cX4_foresee 122 = .ok (.iload_n 2, 1) := by decide +kernel
theorem dX4_foresee_123 : decode cX4_foresee 123 = .ok (.iaload, 1) := by decide +kernel
theorem dX4_foresee_124 : decode cX4_foresee 124 = .ok (.ireturn, 1) := by decide +kernel
set_option maxRecDepth 20000 in
theorem ggX4_advise_X4_isIn : GoodIn wsX4_advise wsX4_isIn := goodIn_r _ [8] (by decide +kernel) (by decide +kernel)
set_option maxRecDepth 20000 in
theorem gX4_advise_X4_isIn : GoodIn wsX4_advise (va_wsS RX4 41 yX4_isIn wsX4_isIn) := goodIn_app (goodIn_of _ (by decide +kernel)) ggX4_advise_X4_isIn
set_option maxRecDepth 20000 in
theorem ggX4_advise_X4_no : GoodIn wsX4_advise wsX4_no := goodIn_r _ [12, 1, 73, 74, 75, 76, 77, 78, 79, 80, 81] (by decide +kernel) (by decide +kernel)
set_option maxRecDepth 20000 in
theorem gX4_advise_X4_no : GoodIn wsX4_advise (wsV RX4 49 RX4 yX4_no wsX4_no) := goodIn_app (goodIn_of _ (by decide +kernel)) ggX4_advise_X4_no
set_option maxRecDepth 20000 in
theorem ggX4_advise_X3_become : GoodIn wsX4_advise wsX3_become := goodIn_r _ [17, 18, 19, 20, 21, 22, 23, 24, 25, 26, 27, 28, 29, 30, 16, 31, 32, 33, 34, 35, 82, 83, 84, 85, 86, 87, 88, 89, 90, 91, 92, 93] (by decide +kernel) (by decide +kernel)
set_option maxRecDepth 20000 in
theorem gX4_advise_X3_become : GoodIn wsX4_advise (wsV RX4 125 RX3 yX3_become wsX3_become) := goodIn_app (goodIn_of _ (by decide +kernel)) ggX4_advise_X3_become
set_option maxRecDepth 20000 in
theorem ggX4_advise_X4_run : GoodIn wsX4_advise wsX4_run := goodIn_r _ [39, 2, 40, 41, 42, 16, 43, 22, 23, 44, 45, 46, 47, 48, 49, 18, 26, 50, 51, 52, 24, 53, 54, 55, 56, 25, 21, 19, 20, 27, 57, 58, 59, 60, 61, 62, 63, 64, 65, 66, 67, 73, 74, 75, 76, 77, 78, 79, 80, 81, 82, 83, 84, 85, 86, 87, 88, 89, 90, 91, 92, 93] (by decide +kernel) (by decide +kernel)
set_option maxRecDepth 20000 in
theorem gX4_advise_X4_run : GoodIn wsX4_advise (wsV RX4 129 RX4 yX4_run wsX4_run) := goodIn_app (goodIn_of _ (by decide +kernel)) ggX4_advise_X4_run
set_option maxRecDepth 20000 in
theorem ggX4_advise_X4_needed : GoodIn wsX4_advise wsX4_needed := goodIn_r _ [71, 72, 5, 6, 7, 8, 73, 74, 75, 76, 77, 78, 79, 80, 81] (by decide +kernel) (by decide +kernel)
set_option maxRecDepth 20000 in
theorem gX4_advise_X4_needed : GoodIn wsX4_advise (wsV RX4 122 RX4 yX4_needed wsX4_needed) := goodIn_app (goodIn_of _ (by decide +kernel)) ggX4_advise_X4_needed
theorem dX4_advise_0 : decode cX4_advise 0 = .ok (.aload_n 0, 1) := by decide +kernel
theorem dX4_advise_1 : decode cX4_advise 1 = .ok (.iconst 0, 1) := by decide +kernel
theorem dX4_advise_2 : decode cX4_advise 2 = .ok (.putfield 35, 3) := by decide +kernel
theorem dX4_advise_5 : decode cX4_advise 5 = .ok (.iload_n 1, 1) := by decide +kernel
theorem dX4_advise_6 : decode cX4_advise 6 = .ok (.iconst 0, 1) := by decide +kernel
theorem dX4_advise_7 : decode cX4_advise 7 = .ok (.bipush 120, 2) := by decide +kernel
theorem dX4_advise_9 : decode cX4_advise 9 = .ok (.invokestatic 41, 3) := by decide +kernel
theorem dX4_advise_12 : decode cX4_advise 12 = .ok (.ifCond .eq 13, 3) := by decide +kernel
theorem dX4_advise_15 : decode cX4_advise 15 = .ok (.iload_n 2, 1) := by decide +kernel
theorem dX4_advise_16 : decode cX4_advise 16 = .ok (.iconst 1, 1) := by decide +kernel
theorem dX4_advise_17 : decode cX4_advise 17 = .ok (.bipush 80, 2) := by decide +kernel
theorem dX4_advise_19 : decode cX4_advise 19 = .ok (.invokestatic 41, 3) := by decide +kernel
theorem dX4_advise_22 : decode cX4_advise 22 = .ok (.ifCond .ne 9, 3) := by decide +kernel
theorem dX4_advise_25 : decode cX4_advise 25 = .ok (.aload_n 0, 1) := by decide +kernel
theorem dX4_advise_26 : decode cX4_advise 26 = .ok (.iconst 1, 1) := by decide +kernel
theorem dX4_advise_27 : decode cX4_advise 27 = .ok (.invokevirtual 49, 3) := by decide +kernel
theorem dX4_advise_30 : decode cX4_advise 30 = .ok (.ireturn, 1) := by decide +kernel
theorem dX4_advise_31 : decode cX4_advise 31 = .ok (.aload_n 0, 1) := by decide +kernel
theorem dX4_advise_32 : decode cX4_advise 32 = .ok (.getfield 32, 3) := by decide +kernel
theorem dX4_advise_35 : decode cX4_advise 35 = .ok (.aload_n 0, 1) := by decide +kernel
theorem dX4_advise_36 : decode cX4_advise 36 = .ok (.getfield 28, 3) := by decide +kernel
theorem dX4_advise_39 : decode cX4_advise 39 = .ok (.invokevirtual 125, 3) := by decide +kernel
theorem dX4_advise_42 : decode cX4_advise 42 = .ok (.aload_n 0, 1) := by decide +kernel
theorem dX4_advise_43 : decode cX4_advise 43 = .ok (.iload_n 2, 1) := by decide +kernel
theorem dX4_advise_44 : decode cX4_advise 44 = .ok (.invokevirtual 129, 3) := by decide +kernel
theorem dX4_advise_47 : decode cX4_advise 47 = .ok (.aload_n 0, 1) := by decide +kernel
theorem dX4_advise_48 : decode cX4_advise 48 = .ok (.getfield 32, 3) := by decide +kernel
theorem dX4_advise_51 : decode cX4_advise 51 = .ok (.getfield 113, 3) := by decide +kernel
theorem dX4_advise_54 : decode cX4_advise 54 = .ok (.istore_n 3, 1) := by decide +kernel
theorem dX4_advise_55 : decode cX4_advise 55 = .ok (.iconst (-1), 1) := by decide +kernel
theorem dX4_advise_56 : decode cX4_advise 56 = .ok (.istore 4, 2) := by decide +kernel
theorem dX4_advise_58 : decode cX4_advise 58 = .ok (.iconst 0, 1) := by decide +kernel
theorem dX4_advise_59 : decode cX4_advise 59 = .ok (.istore 5, 2) := by decide +kernel
theorem dX4_advise_61 : decode cX4_advise 61 = .ok (.iload 5, 2) := by decide +kernel
theorem dX4_advise_63 : decode cX4_advise 63 = .ok (.aload_n 0, 1) := by decide +kernel
theorem dX4_advise_64 : decode cX4_advise 64 = .ok (.getfield 38, 3) := by decide +kernel
theorem dX4_advise_67 : decode cX4_advise 67 = .ok (.if_icmp .ge 96, 3) := by decide +kernel
theorem dX4_advise_70 : decode cX4_advise 70 = .ok (.aload_n 0, 1) := by decide +kernel
theorem dX4_advise_71 : decode cX4_advise 71 = .ok (.getfield 28, 3) := by decide +kernel
theorem dX4_advise_74 : decode cX4_advise 74 = .ok (.getfield 59, 3) := by decide +kernel
theorem dX4_advise_77 : decode cX4_advise 77 = .ok (.iload 5, 2) := by decide +kernel
theorem dX4_advise_79 : decode cX4_advise 79 = .ok (.iaload, 1) := by decide +kernel
theorem dX4_advise_80 : decode cX4_advise 80 = .ok (.iconst 1, 1) := by decide +kernel
theorem dX4_advise_81 : decode cX4_advise 81 = .ok (.if_icmp .eq 76, 3) := by decide +kernel
theorem dX4_advise_84 : decode cX4_advise 84 = .ok (.aload_n 0, 1) := by decide +kernel
theorem dX4_advise_85 : decode cX4_advise 85 = .ok (.iload 5, 2) := by decide +kernel
theorem dX4_advise_87 : decode cX4_advise 87 = .ok (.iload_n 1, 1) := by decide +kernel
theorem dX4_advise_88 : decode cX4_advise 88 = .ok (.invokevirtual 122, 3) := by decide +kernel
theorem dX4_advise_91 : decode cX4_advise 91 = .ok (.iconst (-1), 1) := by decide +kernel
theorem dX4_advise_92 : decode cX4_advise 92 = .ok (.if_icmp .ne 6, 3) := by decide +kernel
theorem dX4_advise_95 : decode cX4_advise 95 = .ok (.goto 62, 3) := by decide +kernel
theorem dX4_advise_98 : decode cX4_advise 98 = .ok (.aload_n 0, 1) := by decide +kernel
theorem dX4_advise_99 : decode cX4_advise 99 = .ok (.getfield 32, 3) := by decide +kernel
theorem dX4_advise_102 : decode cX4_advise 102 = .ok (.aload_n 0, 1) := by decide +kernel
theorem dX4_advise_103 : decode cX4_advise 103 = .ok (.getfield 28, 3) := by decide +kernel
theorem dX4_advise_106 : decode cX4_advise 106 = .ok (.invokevirtual 125, 3) := by decide +kernel
theorem dX4_advise_109 : decode cX4_advise 109 = .ok (.aload_n 0, 1) := by decide +kernel
theorem dX4_advise_110 : decode cX4_advise 110 = .ok (.getfield 32, 3) := by decide +kernel
theorem dX4_advise_113 : decode cX4_advise 113 = .ok (.getfield 53, 3) := by decide +kernel
theorem dX4_advise_116 : decode cX4_advise 116 = .ok (.iload 5, 2) := by decide +kernel
theorem dX4_advise_118 : decode cX4_advise 118 = .ok (.aload_n 0, 1) := by decide +kernel
theorem dX4_advise_119 : decode cX4_advise 119 = .ok (.iload 5, 2) := by decide +kernel
theorem dX4_advise_121 : decode cX4_advise 121 = .ok (.iload_n 1, 1) := by decide +kernel
theorem dX4_advise_122 : decode cX4_advise 122 = .ok (.invokevirtual 122, 3) := by decide +kernel
theorem dX4_advise_125 : decode cX4_advise 125 = .ok (.iastore, 1) := by decide +kernel
theorem dX4_advise_126 : decode cX4_advise 126 = .ok (.aload_n 0, 1) := by decide +kernel
theorem dX4_advise_127 : decode cX4_advise 127 = .ok (.iload_n 2, 1) := by decide +kernel
theorem dX4_advise_128 : decode cX4_advise 128 = .ok (.invokevirtual 129, 3) := by decide +kernel
theorem dX4_advise_131 : decode cX4_advise 131 = .ok (.aload_n 0, 1) := by decide +kernel
theorem dX4_advise_132 : decode cX4_advise 132 = .ok (.getfield 32, 3) := by decide +kernel
theorem dX4_advise_135 : decode cX4_advise 135 = .ok (.getfield 113, 3) := by decide +kernel
theorem dX4_advise_138 : decode cX4_advise 138 = .ok (.iload_n 3, 1) := by decide +kernel
theorem dX4_advise_139 : decode cX4_advise 139 = .ok (.if_icmp .gt 6, 3) := by decide +kernel
theorem dX4_advise_142 : decode cX4_advise 142 = .ok (.goto 15, 3) := by decide +kernel
theorem dX4_advise_145 : decode cX4_advise 145 = .ok (.aload_n 0, 1) := by decide +kernel
theorem dX4_advise_146 : decode cX4_advise 146 = .ok (.getfield 32, 3) := by decide +kernel
theorem dX4_advise_149 : decode cX4_advise 149 = .ok (.getfield 113, 3) := by decide +kernel
theorem dX4_advise_152 : decode cX4_advise 152 = .ok (.istore_n 3, 1) := by decide +kernel
theorem dX4_advise_153 : decode cX4_advise 153 = .ok (.iload 5, 2) := by decide +kernel
theorem dX4_advise_155 : decode cX4_advise 155 = .ok (.istore 4, 2) := by decide +kernel
theorem dX4_advise_157 : decode cX4_advise 157 = .ok (.iinc 5 1, 3) := by decide +kernel
theorem dX4_advise_160 : decode cX4_advise 160 = .ok (.goto (-99), 3) := by decide +kernel
theorem dX4_advise_163 : decode cX4_advise 163 = .ok (.iload 4, 2) := by decide +kernel
theorem dX4_advise_165 : decode cX4_advise 165 = .ok (.ireturn, 1) := by decide +kernel
set_option maxRecDepth 20000 in
theorem ggX4_missedWith_X3_become : GoodIn wsX4_missedWith wsX3_become := goodIn_r _ [7, 8, 9, 10, 11, 12, 13, 14, 15, 16, 17, 18, 19, 20, 6, 21, 22, 23, 24, 25, 68, 69, 70, 71, 72, 73, 74, 75, 76, 77, 78, 79] (by decide +kernel) (by decide +kernel)
set_option maxRecDepth 20000 in
theorem gX4_missedWith_X3_become : GoodIn wsX4_missedWith (wsV RX4 125 RX3 yX3_become wsX3_become) := goodIn_app (goodIn_of _ (by decide +kernel)) ggX4_missedWith_X3_become
set_option maxRecDepth 20000 in
theorem ggX4_missedWith_X4_run : GoodIn wsX4_missedWith wsX4_run := goodIn_r _ [30, 1, 31, 32, 33, 6, 34, 12, 13, 35, 36, 37, 38, 39, 40, 8, 16, 41, 42, 43, 14, 44, 45, 46, 47, 15, 11, 9, 10, 17, 48, 49, 50, 51, 52, 53, 54, 55, 56, 57, 58, 59, 60, 61, 62, 63, 64, 65, 66, 67, 68, 69, 70, 71, 72, 73, 74, 75, 76, 77, 78, 79] (by decide +kernel) (by decide +kernel)
set_option maxRecDepth 20000 in
theorem gX4_missedWith_X4_run : GoodIn wsX4_missedWith (wsV RX4 129 RX4 yX4_run wsX4_run) := goodIn_app (goodIn_of _ (by decide +kernel)) ggX4_missedWith_X4_run
theorem dX4_missedWith_0 : decode cX4_missedWith 0 = .ok (.aload_n 0, 1) := by decide +kernel
theorem dX4_missedWith_1 : decode cX4_missedWith 1 = .ok (.getfield 32, 3) := by decide +kernel
theorem dX4_missedWith_4 : decode cX4_missedWith 4 = .ok (.aload_n 0, 1) := by decide +kernel
theorem dX4_missedWith_5 : decode cX4_missedWith 5 = .ok (.getfield 28, 3) := by decide +kernel
theorem dX4_missedWith_8 : decode cX4_missedWith 8 = .ok (.invokevirtual 125, 3) := by decide +kernel
theorem dX4_missedWith_11 : decode cX4_missedWith 11 = .ok (.aload_n 0, 1) := by decide +kernel
theorem dX4_missedWith_12 : decode cX4_missedWith 12 = .ok (.getfield 32, 3) := by decide +kernel
theorem dX4_missedWith_15 : decode cX4_missedWith 15 = .ok (.getfield 65, 3) := by decide +kernel
theorem dX4_missedWith_18 : decode cX4_missedWith 18 = .ok (.iload_n 1, 1) := by decide +kernel
theorem dX4_missedWith_19 : decode cX4_missedWith 19 = .ok (.iload_n 2, 1) := by decide +kernel
theorem dX4_missedWith_20 : decode cX4_missedWith 20 = .ok (.iastore, 1) := by decide +kernel
theorem dX4_missedWith_21 : decode cX4_missedWith 21 = .ok (.aload_n 0, 1) := by decide +kernel
theorem dX4_missedWith_22 : decode cX4_missedWith 22 = .ok (.iload_n 3, 1) := by decide +kernel
theorem dX4_missedWith_23 : decode cX4_missedWith 23 = .ok (.invokevirtual 129, 3) := by decide +kernel
theorem dX4_missedWith_26 : decode cX4_missedWith 26 = .ok (.aload_n 0, 1) := by decide +kernel
theorem dX4_missedWith_27 : decode cX4_missedWith 27 = .ok (.getfield 32, 3) := by decide +kernel
theorem dX4_missedWith_30 : decode cX4_missedWith 30 = .ok (.getfield 116, 3) := by decide +kernel
theorem dX4_missedWith_33 : decode cX4_missedWith 33 = .ok (.ireturn, 1) := by decide +kernel
set_option maxRecDepth 20000 in
theorem ggX4_wants_X4_isRow : GoodIn wsX4_wants wsX4_isRow := goodIn_r _ [5, 6, 7, 4, 8] (by decide +kernel) (by decide +kernel)
set_option maxRecDepth 20000 in
theorem gX4_wants_X4_isRow : GoodIn wsX4_wants (va_wsS RX4 45 yX4_isRow wsX4_isRow) := goodIn_app (goodIn_of _ (by decide +kernel)) ggX4_wants_X4_isRow
set_option maxRecDepth 20000 in
theorem ggX4_wants_X4_no : GoodIn wsX4_wants wsX4_no := goodIn_r _ [12, 1, 74, 75, 76, 77, 78, 79, 80, 81, 82] (by decide +kernel) (by decide +kernel)
set_option maxRecDepth 20000 in
theorem gX4_wants_X4_no : GoodIn wsX4_wants (wsV RX4 49 RX4 yX4_no wsX4_no) := goodIn_app (goodIn_of _ (by decide +kernel)) ggX4_wants_X4_no
set_option maxRecDepth 20000 in
theorem ggX4_wants_X4_isIn : GoodIn wsX4_wants wsX4_isIn := goodIn_r _ [8] (by decide +kernel) (by decide +kernel)
set_option maxRecDepth 20000 in
theorem gX4_wants_X4_isIn : GoodIn wsX4_wants (va_wsS RX4 41 yX4_isIn wsX4_isIn) := goodIn_app (goodIn_of _ (by decide +kernel)) ggX4_wants_X4_isIn
set_option maxRecDepth 20000 in
theorem ggX4_wants_X4_missedWith : GoodIn wsX4_wants wsX4_missedWith := goodIn_r _ [16, 17, 18, 19, 20, 21, 22, 23, 24, 25, 26, 27, 28, 29, 30, 31, 32, 33, 34, 35, 36, 37, 38, 39, 40, 41, 42, 43, 44, 4, 45, 46, 47, 48, 49, 50, 51, 52, 53, 54, 55, 56, 57, 58, 59, 60, 61, 62, 63, 64, 65, 66, 67, 68, 69, 70, 71, 72, 73, 74, 75, 76, 77, 78, 79, 80, 81, 82, 83, 84, 85, 86, 87, 88, 89, 90, 91, 92, 93, 94] (by decide +kernel) (by decide +kernel)
set_option maxRecDepth 20000 in
theorem gX4_wants_X4_missedWith : GoodIn wsX4_wants (wsV RX4 133 RX4 yX4_missedWith wsX4_missedWith) := goodIn_app (goodIn_of _ (by decide +kernel)) ggX4_wants_X4_missedWith
theorem dX4_wants_0 : decode cX4_wants 0 = .ok (.aload_n 0, 1) := by decide +kernel
theorem dX4_wants_1 : decode cX4_wants 1 = .ok (.iconst 0, 1) := by decide +kernel
theorem dX4_wants_2 : decode cX4_wants 2 = .ok (.putfield 35, 3) := by decide +kernel
theorem dX4_wants_5 : decode cX4_wants 5 = .ok (.iload_n 1, 1) := by decide +kernel
theorem dX4_wants_6 : decode cX4_wants 6 = .ok (.invokestatic 45, 3) := by decide +kernel
theorem dX4_wants_9 : decode cX4_wants 9 = .ok (.ifCond .ne 9, 3) := by decide +kernel
theorem dX4_wants_12 : decode cX4_wants 12 = .ok (.aload_n 0, 1) := by decide +kernel
theorem dX4_wants_13 : decode cX4_wants 13 = .ok (.iconst 1, 1) := by decide +kernel
theorem dX4_wants_14 : decode cX4_wants 14 = .ok (.invokevirtual 49, 3) := by decide +kernel
theorem dX4_wants_17 : decode cX4_wants 17 = .ok (.ireturn, 1) := by decide +kernel
theorem dX4_wants_18 : decode cX4_wants 18 = .ok (.iload_n 2, 1) := by decide +kernel
theorem dX4_wants_19 : decode cX4_wants 19 = .ok (.iconst 1, 1) := by decide +kernel
theorem dX4_wants_20 : decode cX4_wants 20 = .ok (.bipush 80, 2) := by decide +kernel
theorem dX4_wants_22 : decode cX4_wants 22 = .ok (.invokestatic 41, 3) := by decide +kernel
theorem dX4_wants_25 : decode cX4_wants 25 = .ok (.ifCond .ne 9, 3) := by decide +kernel
theorem dX4_wants_28 : decode cX4_wants 28 = .ok (.aload_n 0, 1) := by decide +kernel
theorem dX4_wants_29 : decode cX4_wants 29 = .ok (.iconst 2, 1) := by decide +kernel
theorem dX4_wants_30 : decode cX4_wants 30 = .ok (.invokevirtual 49, 3) := by decide +kernel
theorem dX4_wants_33 : decode cX4_wants 33 = .ok (.ireturn, 1) := by decide +kernel
theorem dX4_wants_34 : decode cX4_wants 34 = .ok (.aload_n 0, 1) := by decide +kernel
theorem dX4_wants_35 : decode cX4_wants 35 = .ok (.iload_n 1, 1) := by decide +kernel
theorem dX4_wants_36 : decode cX4_wants 36 = .ok (.bipush 9, 2) := by decide +kernel
theorem dX4_wants_38 : decode cX4_wants 38 = .ok (.iload_n 2, 1) := by decide +kernel
theorem dX4_wants_39 : decode cX4_wants 39 = .ok (.invokevirtual 133, 3) := by decide +kernel
theorem dX4_wants_42 : decode cX4_wants 42 = .ok (.istore_n 3, 1) := by decide +kernel
theorem dX4_wants_43 : decode cX4_wants 43 = .ok (.iconst 0, 1) := by decide +kernel
theorem dX4_wants_44 : decode cX4_wants 44 = .ok (.istore 4, 2) := by decide +kernel
theorem dX4_wants_46 : decode cX4_wants 46 = .ok (.aload_n 0, 1) := by decide +kernel
theorem dX4_wants_47 : decode cX4_wants 47 = .ok (.iload_n 1, 1) := by decide +kernel
theorem dX4_wants_48 : decode cX4_wants 48 = .ok (.iload 4, 2) := by decide +kernel
theorem dX4_wants_50 : decode cX4_wants 50 = .ok (.iload_n 2, 1) := by decide +kernel
theorem dX4_wants_51 : decode cX4_wants 51 = .ok (.invokevirtual 133, 3) := by decide +kernel
theorem dX4_wants_54 : decode cX4_wants 54 = .ok (.iload_n 3, 1) := by decide +kernel
theorem dX4_wants_55 : decode cX4_wants 55 = .ok (.if_icmp .le 9, 3) := by decide +kernel
theorem dX4_wants_58 : decode cX4_wants 58 = .ok (.iinc 4 1, 3) := by decide +kernel
theorem dX4_wants_61 : decode cX4_wants 61 = .ok (.goto (-15), 3) := by decide +kernel
theorem dX4_wants_64 : decode cX4_wants 64 = .ok (.iload 4, 2) := by decide +kernel
theorem dX4_wants_66 : decode cX4_wants 66 = .ok (.ireturn, 1) := by decide +kernel
theorem dX4_mean_0 : decode cX4_mean 0 = .ok (.aload_n 0, 1) := by decide +kernel
theorem dX4_mean_1 : decode cX4_mean 1 = .ok (.iconst 0, 1) := by decide +kernel
theorem dX4_mean_2 : decode cX4_mean 2 = .ok (.putfield 35, 3) := by decide +kernel
theorem dX4_mean_5 : decode cX4_mean 5 = .ok (.aload_n 0, 1) := by decide +kernel
theorem dX4_mean_6 : decode cX4_mean 6 = .ok (.getfield 28, 3) := by decide +kernel
theorem dX4_mean_9 : decode cX4_mean 9 = .ok (.getfield 100, 3) := by decide +kernel
theorem dX4_mean_12 : decode cX4_mean 12 = .ok (.aload_n 0, 1) := by decide +kernel
theorem dX4_mean_13 : decode cX4_mean 13 = .ok (.getfield 28, 3) := by decide +kernel
theorem dX4_mean_16 : decode cX4_mean 16 = .ok (.getfield 116, 3) := by decide +kernel
theorem dX4_mean_19 : decode cX4_mean 19 = .ok (.iadd, 1) := by decide +kernel
theorem dX4_mean_20 : decode cX4_mean 20 = .ok (.istore_n 1, 1) := by decide +kernel
theorem dX4_mean_21 : decode cX4_mean 21 = .ok (.iload_n 1, 1) := by decide +kernel
theorem dX4_mean_22 : decode cX4_mean 22 = .ok (.ifCond .ne 7, 3) := by decide +kernel
theorem dX4_mean_25 : decode cX4_mean 25 = .ok (.dconst 0, 1) := by decide +kernel
theorem dX4_mean_26 : decode cX4_mean 26 = .ok (.goto 14, 3) := by decide +kernel
theorem dX4_mean_29 : decode cX4_mean 29 = .ok (.aload_n 0, 1) := by decide +kernel
theorem dX4_mean_30 : decode cX4_mean 30 = .ok (.getfield 28, 3) := by decide +kernel
theorem dX4_mean_33 : decode cX4_mean 33 = .ok (.getfield 113, 3) := by decide +kernel
theorem dX4_mean_36 : decode cX4_mean 36 = .ok (.i2d, 1) := by decide +kernel
theorem dX4_mean_37 : decode cX4_mean 37 = .ok (.iload_n 1, 1) := by decide +kernel
theorem dX4_mean_38 : decode cX4_mean 38 = .ok (.i2d, 1) := by decide +kernel
theorem dX4_mean_39 : decode cX4_mean 39 = .ok (.ddiv, 1) := by decide +kernel
theorem dX4_mean_40 : decode cX4_mean 40 = .ok (.dreturn, 1) := by decide +kernel
set_option maxRecDepth 20000 in
theorem ggX4_digest_X4_counted : GoodIn wsX4_digest wsX4_counted := goodIn_r _ [12, 13, 5, 14, 6, 15, 16, 17, 11, 18, 19, 20, 21, 22, 23, 24, 25, 26, 27, 28, 29, 30, 31, 32, 33, 34, 35, 36, 37, 38, 39, 40, 41, 42, 54, 55, 56, 57, 58, 59, 60, 61, 62, 63, 64, 65, 66, 67, 68, 69, 70, 71, 72, 73, 74] (by decide +kernel) (by decide +kernel)
set_option maxRecDepth 20000 in
theorem gX4_digest_X4_counted : GoodIn wsX4_digest (wsV RX4 119 RX4 yX4_counted wsX4_counted) := goodIn_app (goodIn_of _ (by decide +kernel)) ggX4_digest_X4_counted
set_option maxRecDepth 20000 in
theorem ggX4_digest_X4_glassTold : GoodIn wsX4_digest wsX4_glassTold := goodIn_r _ [46, 14, 47, 48, 13, 49, 30, 31, 22, 32, 33, 34, 35, 36, 26, 37, 15, 16, 17, 11, 18, 5, 19, 20, 21, 23, 24, 25, 27, 28, 29, 54, 55, 56, 57, 58, 59, 60, 61, 62, 63, 64, 65, 66, 67, 68, 69, 70, 71, 72, 73, 74] (by decide +kernel) (by decide +kernel)
set_option maxRecDepth 20000 in
theorem gX4_digest_X4_glassTold : GoodIn wsX4_digest (wsV RX4 81 RX4 yX4_glassTold wsX4_glassTold) := goodIn_app (goodIn_of _ (by decide +kernel)) ggX4_digest_X4_glassTold
set_option maxRecDepth 20000 in
theorem ggX4_digest_X4_rowTold : GoodIn wsX4_digest wsX4_rowTold := goodIn_r _ [53, 5, 47, 13, 54, 55, 56, 57, 58, 59, 60, 61, 62, 63, 64, 65, 66, 67, 68, 69, 70, 71, 72, 73, 74] (by decide +kernel) (by decide +kernel)
set_option maxRecDepth 20000 in
theorem gX4_digest_X4_rowTold : GoodIn wsX4_digest (wsV RX4 88 RX4 yX4_rowTold wsX4_rowTold) := goodIn_app (goodIn_of _ (by decide +kernel)) ggX4_digest_X4_rowTold
theorem dX4_digest_0 : decode cX4_digest 0 = .ok (.aload_n 0, 1) := by decide +kernel
theorem dX4_digest_1 : decode cX4_digest 1 = .ok (.iconst 0, 1) := by decide +kernel
theorem dX4_digest_2 : decode cX4_digest 2 = .ok (.putfield 35, 3) := by decide +kernel
theorem dX4_digest_5 : decode cX4_digest 5 = .ok (.ldc2_w 137, 3) := by decide +kernel
theorem dX4_digest_8 : decode cX4_digest 8 = .ok (.lstore_n 1, 1) := by decide +kernel
theorem dX4_digest_9 : decode cX4_digest 9 = .ok (.iconst 0, 1) := by decide +kernel
theorem dX4_digest_10 : decode cX4_digest 10 = .ok (.istore_n 3, 1) := by decide +kernel
theorem dX4_digest_11 : decode cX4_digest 11 = .ok (.iload_n 3, 1) := by decide +kernel
theorem dX4_digest_12 : decode cX4_digest 12 = .ok (.bipush 8, 2) := by decide +kernel
theorem dX4_digest_14 : decode cX4_digest 14 = .ok (.if_icmp .gt 22, 3) := by decide +kernel
theorem dX4_digest_17 : decode cX4_digest 17 = .ok (.lload_n 1, 1) := by decide +kernel
theorem dX4_digest_18 : decode cX4_digest 18 = .ok (.ldc2_w 139, 3) := by decide +kernel
theorem dX4_digest_21 : decode cX4_digest 21 = .ok (.lmul, 1) := by decide +kernel
theorem dX4_digest_22 : decode cX4_digest 22 = .ok (.aload_n 0, 1) := by decide +kernel
theorem dX4_digest_23 : decode cX4_digest 23 = .ok (.iload_n 3, 1) := by decide +kernel
theorem dX4_digest_24 : decode cX4_digest 24 = .ok (.invokevirtual 119, 3) := by decide +kernel
theorem dX4_digest_27 : decode cX4_digest 27 = .ok (.i2l, 1) := by decide +kernel
theorem dX4_digest_28 : decode cX4_digest 28 = .ok (.ladd, 1) := by decide +kernel
theorem dX4_digest_29 : decode cX4_digest 29 = .ok (.lstore_n 1, 1) := by decide +kernel
theorem dX4_digest_30 : decode cX4_digest 30 = .ok (.iinc 3 1, 3) := by decide +kernel
theorem dX4_digest_33 : decode cX4_digest 33 = .ok (.goto (-22), 3) := by decide +kernel
theorem dX4_digest_36 : decode cX4_digest 36 = .ok (.lload_n 1, 1) := by decide +kernel
theorem dX4_digest_37 : decode cX4_digest 37 = .ok (.ldc2_w 139, 3) := by decide +kernel
theorem dX4_digest_40 : decode cX4_digest 40 = .ok (.lmul, 1) := by decide +kernel
theorem dX4_digest_41 : decode cX4_digest 41 = .ok (.aload_n 0, 1) := by decide +kernel
theorem dX4_digest_42 : decode cX4_digest 42 = .ok (.getfield 7, 3) := by decide +kernel
theorem dX4_digest_45 : decode cX4_digest 45 = .ok (.i2l, 1) := by decide +kernel
theorem dX4_digest_46 : decode cX4_digest 46 = .ok (.ladd, 1) := by decide +kernel
theorem dX4_digest_47 : decode cX4_digest 47 = .ok (.lstore_n 1, 1) := by decide +kernel
theorem dX4_digest_48 : decode cX4_digest 48 = .ok (.iconst 0, 1) := by decide +kernel
theorem dX4_digest_49 : decode cX4_digest 49 = .ok (.istore_n 3, 1) := by decide +kernel
theorem dX4_digest_50 : decode cX4_digest 50 = .ok (.iload_n 3, 1) := by decide +kernel
theorem dX4_digest_51 : decode cX4_digest 51 = .ok (.aload_n 0, 1) := by decide +kernel
theorem dX4_digest_52 : decode cX4_digest 52 = .ok (.getfield 38, 3) := by decide +kernel
theorem dX4_digest_55 : decode cX4_digest 55 = .ok (.if_icmp .ge 40, 3) := by decide +kernel
theorem dX4_digest_58 : decode cX4_digest 58 = .ok (.iconst 0, 1) := by decide +kernel
theorem dX4_digest_59 : decode cX4_digest 59 = .ok (.istore 4, 2) := by decide +kernel
theorem dX4_digest_61 : decode cX4_digest 61 = .ok (.iload 4, 2) := by decide +kernel
theorem dX4_digest_63 : decode cX4_digest 63 = .ok (.bipush 7, 2) := by decide +kernel
theorem dX4_digest_65 : decode cX4_digest 65 = .ok (.if_icmp .gt 24, 3) := by decide +kernel
theorem dX4_digest_68 : decode cX4_digest 68 = .ok (.lload_n 1, 1) := by decide +kernel
theorem dX4_digest_69 : decode cX4_digest 69 = .ok (.ldc2_w 139, 3) := by decide +kernel
theorem dX4_digest_72 : decode cX4_digest 72 = .ok (.lmul, 1) := by decide +kernel
theorem dX4_digest_73 : decode cX4_digest 73 = .ok (.aload_n 0, 1) := by decide +kernel
theorem dX4_digest_74 : decode cX4_digest 74 = .ok (.iload_n 3, 1) := by decide +kernel
theorem dX4_digest_75 : decode cX4_digest 75 = .ok (.iload 4, 2) := by decide +kernel
theorem dX4_digest_77 : decode cX4_digest 77 = .ok (.invokevirtual 81, 3) := by decide +kernel
theorem dX4_digest_80 : decode cX4_digest 80 = .ok (.i2l, 1) := by decide +kernel
theorem dX4_digest_81 : decode cX4_digest 81 = .ok (.ladd, 1) := by decide +kernel
theorem dX4_digest_82 : decode cX4_digest 82 = .ok (.lstore_n 1, 1) := by decide +kernel
theorem dX4_digest_83 : decode cX4_digest 83 = .ok (.iinc 4 1, 3) := by decide +kernel
theorem dX4_digest_86 : decode cX4_digest 86 = .ok (.goto (-25), 3) := by decide +kernel
theorem dX4_digest_89 : decode cX4_digest 89 = .ok (.iinc 3 1, 3) := by decide +kernel
theorem dX4_digest_92 : decode cX4_digest 92 = .ok (.goto (-42), 3) := by decide +kernel
theorem dX4_digest_95 : decode cX4_digest 95 = .ok (.iconst 0, 1) := by decide +kernel
theorem dX4_digest_96 : decode cX4_digest 96 = .ok (.istore_n 3, 1) := by decide +kernel
theorem dX4_digest_97 : decode cX4_digest 97 = .ok (.iload_n 3, 1) := by decide +kernel
theorem dX4_digest_98 : decode cX4_digest 98 = .ok (.iconst 4, 1) := by decide +kernel
theorem dX4_digest_99 : decode cX4_digest 99 = .ok (.if_icmp .ge 39, 3) := by decide +kernel
theorem dX4_digest_102 : decode cX4_digest 102 = .ok (.iconst 0, 1) := by decide +kernel
theorem dX4_digest_103 : decode cX4_digest 103 = .ok (.istore 4, 2) := by decide +kernel
theorem dX4_digest_105 : decode cX4_digest 105 = .ok (.iload 4, 2) := by decide +kernel
theorem dX4_digest_107 : decode cX4_digest 107 = .ok (.iconst 2, 1) := by decide +kernel
theorem dX4_digest_108 : decode cX4_digest 108 = .ok (.if_icmp .gt 24, 3) := by decide +kernel
theorem dX4_digest_111 : decode cX4_digest 111 = .ok (.lload_n 1, 1) := by decide +kernel
theorem dX4_digest_112 : decode cX4_digest 112 = .ok (.ldc2_w 139, 3) := by decide +kernel
theorem dX4_digest_115 : decode cX4_digest 115 = .ok (.lmul, 1) := by decide +kernel
theorem dX4_digest_116 : decode cX4_digest 116 = .ok (.aload_n 0, 1) := by decide +kernel
theorem dX4_digest_117 : decode cX4_digest 117 = .ok (.iload_n 3, 1) := by decide +kernel
theorem dX4_digest_118 : decode cX4_digest 118 = .ok (.iload 4, 2) := by decide +kernel
theorem dX4_digest_120 : decode cX4_digest 120 = .ok (.invokevirtual 88, 3) := by decide +kernel
theorem dX4_digest_123 : decode cX4_digest 123 = .ok (.i2l, 1) := by decide +kernel
theorem dX4_digest_124 : decode cX4_digest 124 = .ok (.ladd, 1) := by decide +kernel
theorem dX4_digest_125 : decode cX4_digest 125 = .ok (.lstore_n 1, 1) := by decide +kernel
theorem dX4_digest_126 : decode cX4_digest 126 = .ok (.iinc 4 1, 3) := by decide +kernel
theorem dX4_digest_129 : decode cX4_digest 129 = .ok (.goto (-24), 3) := by decide +kernel
theorem dX4_digest_132 : decode cX4_digest 132 = .ok (.iinc 3 1, 3) := by decide +kernel
theorem dX4_digest_135 : decode cX4_digest 135 = .ok (.goto (-38), 3) := by decide +kernel
theorem dX4_digest_138 : decode cX4_digest 138 = .ok (.iconst 0, 1) := by decide +kernel
theorem dX4_digest_139 : decode cX4_digest 139 = .ok (.istore_n 3, 1) := by decide +kernel
theorem dX4_digest_140 : decode cX4_digest 140 = .ok (.iload_n 3, 1) := by decide +kernel
theorem dX4_digest_141 : decode cX4_digest 141 = .ok (.iconst 3, 1) := by decide +kernel
theorem dX4_digest_142 : decode cX4_digest 142 = .ok (.aload_n 0, 1) := by decide +kernel
theorem dX4_digest_143 : decode cX4_digest 143 = .ok (.getfield 91, 3) := by decide +kernel
theorem dX4_digest_146 : decode cX4_digest 146 = .ok (.imul, 1) := by decide +kernel
theorem dX4_digest_147 : decode cX4_digest 147 = .ok (.if_icmp .ge 23, 3) := by decide +kernel
theorem dX4_digest_150 : decode cX4_digest 150 = .ok (.lload_n 1, 1) := by decide +kernel
theorem dX4_digest_151 : decode cX4_digest 151 = .ok (.ldc2_w 139, 3) := by decide +kernel
theorem dX4_digest_154 : decode cX4_digest 154 = .ok (.lmul, 1) := by decide +kernel
theorem dX4_digest_155 : decode cX4_digest 155 = .ok (.aload_n 0, 1) := by decide +kernel
theorem dX4_digest_156 : decode cX4_digest 156 = .ok (.getfield 13, 3) := by decide +kernel
theorem dX4_digest_159 : decode cX4_digest 159 = .ok (.iload_n 3, 1) := by decide +kernel
theorem dX4_digest_160 : decode cX4_digest 160 = .ok (.iaload, 1) := by decide +kernel
theorem dX4_digest_161 : decode cX4_digest 161 = .ok (.i2l, 1) := by decide +kernel
theorem dX4_digest_162 : decode cX4_digest 162 = .ok (.ladd, 1) := by decide +kernel
theorem dX4_digest_163 : decode cX4_digest 163 = .ok (.lstore_n 1, 1) := by decide +kernel
theorem dX4_digest_164 : decode cX4_digest 164 = .ok (.iinc 3 1, 3) := by decide +kernel
theorem dX4_digest_167 : decode cX4_digest 167 = .ok (.goto (-27), 3) := by decide +kernel
theorem dX4_digest_170 : decode cX4_digest 170 = .ok (.lload_n 1, 1) := by decide +kernel
theorem dX4_digest_171 : decode cX4_digest 171 = .ok (.lreturn, 1) := by decide +kernel
