theorem dX1_init_0 : decode cX1_init 0 = .ok (.aload_n 0, 1) := by decide +kernel
theorem dX1_init_1 : decode cX1_init 1 = .ok (.invokespecial 3, 3) := by decide +kernel
theorem dX1_init_4 : decode cX1_init 4 = .ok (.aload_n 0, 1) := by decide +kernel
theorem dX1_init_5 : decode cX1_init 5 = .ok (.bipush 32, 2) := by decide +kernel
theorem dX1_init_7 : decode cX1_init 7 = .ok (.newarray .int, 2) := by decide +kernel
theorem dX1_init_9 : decode cX1_init 9 = .ok (.putfield 9, 3) := by decide +kernel
theorem dX1_init_12 : decode cX1_init 12 = .ok (.aload_n 0, 1) := by decide +kernel
theorem dX1_init_13 : decode cX1_init 13 = .ok (.bipush 32, 2) := by decide +kernel
theorem dX1_init_15 : decode cX1_init 15 = .ok (.newarray .int, 2) := by decide +kernel
theorem dX1_init_17 : decode cX1_init 17 = .ok (.putfield 15, 3) := by decide +kernel
theorem dX1_init_20 : decode cX1_init 20 = .ok (.aload_n 0, 1) := by decide +kernel
theorem dX1_init_21 : decode cX1_init 21 = .ok (.bipush 32, 2) := by decide +kernel
theorem dX1_init_23 : decode cX1_init 23 = .ok (.newarray .int, 2) := by decide +kernel
theorem dX1_init_25 : decode cX1_init 25 = .ok (.putfield 18, 3) := by decide +kernel
theorem dX1_init_28 : decode cX1_init 28 = .ok (.aload_n 0, 1) := by decide +kernel
theorem dX1_init_29 : decode cX1_init 29 = .ok (.iconst 0, 1) := by decide +kernel
theorem dX1_init_30 : decode cX1_init 30 = .ok (.putfield 21, 3) := by decide +kernel
theorem dX1_init_33 : decode cX1_init 33 = .ok (.aload_n 0, 1) := by decide +kernel
theorem dX1_init_34 : decode cX1_init 34 = .ok (.bipush 16, 2) := by decide +kernel
theorem dX1_init_36 : decode cX1_init 36 = .ok (.putfield 25, 3) := by decide +kernel
theorem dX1_init_39 : decode cX1_init 39 = .ok (.return_, 1) := by decide +kernel
theorem dX1_hasNote_0 : decode cX1_hasNote 0 = .ok (.iload_n 1, 1) := by decide +kernel
theorem dX1_hasNote_1 : decode cX1_hasNote 1 = .ok (.ifCond .lt 15, 3) := by decide +kernel
theorem dX1_hasNote_4 : decode cX1_hasNote 4 = .ok (.iload_n 1, 1) := by decide +kernel
theorem dX1_hasNote_5 : decode cX1_hasNote 5 = .ok (.aload_n 0, 1) := by decide +kernel
theorem dX1_hasNote_6 : decode cX1_hasNote 6 = .ok (.getfield 21, 3) := by decide +kernel
theorem dX1_hasNote_9 : decode cX1_hasNote 9 = .ok (.if_icmp .ge 7, 3) := by decide +kernel
theorem dX1_hasNote_12 : decode cX1_hasNote 12 = .ok (.iconst 1, 1) := by decide +kernel
theorem dX1_hasNote_13 : decode cX1_hasNote 13 = .ok (.goto 4, 3) := by decide +kernel
theorem dX1_hasNote_16 : decode cX1_hasNote 16 = .ok (.iconst 0, 1) := by decide +kernel
theorem dX1_hasNote_17 : decode cX1_hasNote 17 = .ok (.ireturn, 1) := by decide +kernel
theorem dX1_write_0 : decode cX1_write 0 = .ok (.aload_n 0, 1) := by decide +kernel
theorem dX1_write_1 : decode cX1_write 1 = .ok (.getfield 21, 3) := by decide +kernel
theorem dX1_write_4 : decode cX1_write 4 = .ok (.bipush 32, 2) := by decide +kernel
theorem dX1_write_6 : decode cX1_write 6 = .ok (.if_icmp .lt 5, 3) := by decide +kernel
theorem dX1_write_9 : decode cX1_write 9 = .ok (.iconst 0, 1) := by decide +kernel
theorem dX1_write_10 : decode cX1_write 10 = .ok (.ireturn, 1) := by decide +kernel
theorem dX1_write_11 : decode cX1_write 11 = .ok (.aload_n 0, 1) := by decide +kernel
theorem dX1_write_12 : decode cX1_write 12 = .ok (.getfield 9, 3) := by decide +kernel
theorem dX1_write_15 : decode cX1_write 15 = .ok (.aload_n 0, 1) := by decide +kernel
theorem dX1_write_16 : decode cX1_write 16 = .ok (.getfield 21, 3) := by decide +kernel
theorem dX1_write_19 : decode cX1_write 19 = .ok (.iload_n 1, 1) := by decide +kernel
theorem dX1_write_20 : decode cX1_write 20 = .ok (.iastore, 1) := by decide +kernel
theorem dX1_write_21 : decode cX1_write 21 = .ok (.aload_n 0, 1) := by decide +kernel
theorem dX1_write_22 : decode cX1_write 22 = .ok (.getfield 15, 3) := by decide +kernel
theorem dX1_write_25 : decode cX1_write 25 = .ok (.aload_n 0, 1) := by decide +kernel
theorem dX1_write_26 : decode cX1_write 26 = .ok (.getfield 21, 3) := by decide +kernel
theorem dX1_write_29 : decode cX1_write 29 = .ok (.iload_n 2, 1) := by decide +kernel
theorem dX1_write_30 : decode cX1_write 30 = .ok (.iastore, 1) := by decide +kernel
theorem dX1_write_31 : decode cX1_write 31 = .ok (.aload_n 0, 1) := by decide +kernel
theorem dX1_write_32 : decode cX1_write 32 = .ok (.getfield 18, 3) := by decide +kernel
theorem dX1_write_35 : decode cX1_write 35 = .ok (.aload_n 0, 1) := by decide +kernel
theorem dX1_write_36 : decode cX1_write 36 = .ok (.getfield 21, 3) := by decide +kernel
theorem dX1_write_39 : decode cX1_write 39 = .ok (.iload_n 3, 1) := by decide +kernel
theorem dX1_write_40 : decode cX1_write 40 = .ok (.iastore, 1) := by decide +kernel
theorem dX1_write_41 : decode cX1_write 41 = .ok (.aload_n 0, 1) := by decide +kernel
theorem dX1_write_42 : decode cX1_write 42 = .ok (.dup, 1) := by decide +kernel
theorem dX1_write_43 : decode cX1_write 43 = .ok (.getfield 21, 3) := by decide +kernel
theorem dX1_write_46 : decode cX1_write 46 = .ok (.iconst 1, 1) := by decide +kernel
theorem dX1_write_47 : decode cX1_write 47 = .ok (.iadd, 1) := by decide +kernel
theorem dX1_write_48 : decode cX1_write 48 = .ok (.putfield 21, 3) := by decide +kernel
theorem dX1_write_51 : decode cX1_write 51 = .ok (.iconst 1, 1) := by decide +kernel
theorem dX1_write_52 : decode cX1_write 52 = .ok (.ireturn, 1) := by decide +kernel
set_option maxRecDepth 20000 in
theorem ggX1_takeOut_X1_hasNote : GoodIn wsX1_takeOut wsX1_hasNote := goodIn_r _ [9, 1, 10, 11, 12, 13, 14] (by decide +kernel) (by decide +kernel)
set_option maxRecDepth 20000 in
theorem gX1_takeOut_X1_hasNote : GoodIn wsX1_takeOut (wsV RX1 28 RX1 yX1_hasNote wsX1_hasNote) := goodIn_app (goodIn_of _ (by decide +kernel)) ggX1_takeOut_X1_hasNote
theorem dX1_takeOut_0 : decode cX1_takeOut 0 = .ok (.aload_n 0, 1) := by decide +kernel
theorem dX1_takeOut_1 : decode cX1_takeOut 1 = .ok (.iload_n 1, 1) := by decide +kernel
theorem dX1_takeOut_2 : decode cX1_takeOut 2 = .ok (.invokevirtual 28, 3) := by decide +kernel
theorem dX1_takeOut_5 : decode cX1_takeOut 5 = .ok (.ifCond .ne 4, 3) := by decide +kernel
theorem dX1_takeOut_8 : decode cX1_takeOut 8 = .ok (.return_, 1) := by decide +kernel
theorem dX1_takeOut_9 : decode cX1_takeOut 9 = .ok (.iload_n 1, 1) := by decide +kernel
theorem dX1_takeOut_10 : decode cX1_takeOut 10 = .ok (.istore_n 2, 1) := by decide +kernel
theorem dX1_takeOut_11 : decode cX1_takeOut 11 = .ok (.iload_n 2, 1) := by decide +kernel
theorem dX1_takeOut_12 : decode cX1_takeOut 12 = .ok (.iconst 1, 1) := by decide +kernel
theorem dX1_takeOut_13 : decode cX1_takeOut 13 = .ok (.iadd, 1) := by decide +kernel
theorem dX1_takeOut_14 : decode cX1_takeOut 14 = .ok (.aload_n 0, 1) := by decide +kernel
theorem dX1_takeOut_15 : decode cX1_takeOut 15 = .ok (.getfield 21, 3) := by decide +kernel
theorem dX1_takeOut_18 : decode cX1_takeOut 18 = .ok (.if_icmp .ge 51, 3) := by decide +kernel
theorem dX1_takeOut_21 : decode cX1_takeOut 21 = .ok (.aload_n 0, 1) := by decide +kernel
theorem dX1_takeOut_22 : decode cX1_takeOut 22 = .ok (.getfield 9, 3) := by decide +kernel
theorem dX1_takeOut_25 : decode cX1_takeOut 25 = .ok (.iload_n 2, 1) := by decide +kernel
theorem dX1_takeOut_26 : decode cX1_takeOut 26 = .ok (.aload_n 0, 1) := by decide +kernel
theorem dX1_takeOut_27 : decode cX1_takeOut 27 = .ok (.getfield 9, 3) := by decide +kernel
theorem dX1_takeOut_30 : decode cX1_takeOut 30 = .ok (.iload_n 2, 1) := by decide +kernel
theorem dX1_takeOut_31 : decode cX1_takeOut 31 = .ok (.iconst 1, 1) := by decide +kernel
theorem dX1_takeOut_32 : decode cX1_takeOut 32 = .ok (.iadd, 1) := by decide +kernel
theorem dX1_takeOut_33 : decode cX1_takeOut 33 = .ok (.iaload, 1) := by decide +kernel
theorem dX1_takeOut_34 : decode cX1_takeOut 34 = .ok (.iastore, 1) := by decide +kernel
theorem dX1_takeOut_35 : decode cX1_takeOut 35 = .ok (.aload_n 0, 1) := by decide +kernel
theorem dX1_takeOut_36 : decode cX1_takeOut 36 = .ok (.getfield 15, 3) := by decide +kernel
theorem dX1_takeOut_39 : decode cX1_takeOut 39 = .ok (.iload_n 2, 1) := by decide +kernel
theorem dX1_takeOut_40 : decode cX1_takeOut 40 = .ok (.aload_n 0, 1) := by decide +kernel
theorem dX1_takeOut_41 : decode cX1_takeOut 41 = .ok (.getfield 15, 3) := by decide +kernel
theorem dX1_takeOut_44 : decode cX1_takeOut 44 = .ok (.iload_n 2, 1) := by decide +kernel
theorem dX1_takeOut_45 : decode cX1_takeOut 45 = .ok (.iconst 1, 1) := by decide +kernel
theorem dX1_takeOut_46 : decode cX1_takeOut 46 = .ok (.iadd, 1) := by decide +kernel
theorem dX1_takeOut_47 : decode cX1_takeOut 47 = .ok (.iaload, 1) := by decide +kernel
theorem dX1_takeOut_48 : decode cX1_takeOut 48 = .ok (.iastore, 1) := by decide +kernel
theorem dX1_takeOut_49 : decode cX1_takeOut 49 = .ok (.aload_n 0, 1) := by decide +kernel
theorem dX1_takeOut_50 : decode cX1_takeOut 50 = .ok (.getfield 18, 3) := by decide +kernel
theorem dX1_takeOut_53 : decode cX1_takeOut 53 = .ok (.iload_n 2, 1) := by decide +kernel
theorem dX1_takeOut_54 : decode cX1_takeOut 54 = .ok (.aload_n 0, 1) := by decide +kernel
theorem dX1_takeOut_55 : decode cX1_takeOut 55 = .ok (.getfield 18, 3) := by decide +kernel
theorem dX1_takeOut_58 : decode cX1_takeOut 58 = .ok (.iload_n 2, 1) := by decide +kernel
theorem dX1_takeOut_59 : decode cX1_takeOut 59 = .ok (.iconst 1, 1) := by decide +kernel
theorem dX1_takeOut_60 : decode cX1_takeOut 60 = .ok (.iadd, 1) := by decide +kernel
theorem dX1_takeOut_61 : decode cX1_takeOut 61 = .ok (.iaload, 1) := by decide +kernel
theorem dX1_takeOut_62 : decode cX1_takeOut 62 = .ok (.iastore, 1) := by decide +kernel
theorem dX1_takeOut_63 : decode cX1_takeOut 63 = .ok (.iinc 2 1, 3) := by decide +kernel
theorem dX1_takeOut_66 : decode cX1_takeOut 66 = .ok (.goto (-55), 3) := by decide +kernel
theorem dX1_takeOut_69 : decode cX1_takeOut 69 = .ok (.aload_n 0, 1) := by decide +kernel
theorem dX1_takeOut_70 : decode cX1_takeOut 70 = .ok (.dup, 1) := by decide +kernel
theorem dX1_takeOut_71 : decode cX1_takeOut 71 = .ok (.getfield 21, 3) := by decide +kernel
theorem dX1_takeOut_74 : decode cX1_takeOut 74 = .ok (.iconst 1, 1) := by decide +kernel
theorem dX1_takeOut_75 : decode cX1_takeOut 75 = .ok (.isub, 1) := by decide +kernel
theorem dX1_takeOut_76 : decode cX1_takeOut 76 = .ok (.putfield 21, 3) := by decide +kernel
theorem dX1_takeOut_79 : decode cX1_takeOut 79 = .ok (.return_, 1) := by decide +kernel
theorem dX1_beatAt_0 : decode cX1_beatAt 0 = .ok (.aload_n 0, 1) := by decide +kernel
theorem dX1_beatAt_1 : decode cX1_beatAt 1 = .ok (.getfield 25, 3) := by decide +kernel
theorem dX1_beatAt_4 : decode cX1_beatAt 4 = .ok (.ifCond .le 12, 3) := by decide +kernel
theorem dX1_beatAt_7 : decode cX1_beatAt 7 = .ok (.iload_n 1, 1) := by decide +kernel
theorem dX1_beatAt_8 : decode cX1_beatAt 8 = .ok (.aload_n 0, 1) := by decide +kernel
theorem dX1_beatAt_9 : decode cX1_beatAt 9 = .ok (.getfield 25, 3) := by decide +kernel
theorem dX1_beatAt_12 : decode cX1_beatAt 12 = .ok (.irem, 1) := by decide +kernel
theorem dX1_beatAt_13 : decode cX1_beatAt 13 = .ok (.goto 4, 3) := by decide +kernel
theorem dX1_beatAt_16 : decode cX1_beatAt 16 = .ok (.iconst 0, 1) := by decide +kernel
theorem dX1_beatAt_17 : decode cX1_beatAt 17 = .ok (.ireturn, 1) := by decide +kernel
set_option maxRecDepth 20000 in
theorem ggX2_init_X1_init : GoodIn wsX2_init wsX1_init := goodIn_r _ [14, 15, 2, 3, 16, 17, 18, 19, 20, 21, 41, 42, 43, 44, 45] (by decide +kernel) (by decide +kernel)
set_option maxRecDepth 20000 in
theorem gX2_init_X1_init_n9 : GoodIn wsX2_init (wsX1_init) := ggX2_init_X1_init
set_option maxRecDepth 20000 in
theorem ggX2_init_X0_init : GoodIn wsX2_init wsX0_init := goodIn_r _ [23, 24, 2, 3, 16, 25, 26, 27, 28, 29, 30, 31, 32, 33, 34, 35, 36, 37, 38, 39, 40, 49, 50, 51, 52, 53, 54, 55, 56, 57, 58, 59, 60, 61, 62, 63] (by decide +kernel) (by decide +kernel)
set_option maxRecDepth 20000 in
theorem gX2_init_X0_init_n18 : GoodIn wsX2_init (wsX0_init) := ggX2_init_X0_init
theorem dX2_init_0 : decode cX2_init 0 = .ok (.aload_n 0, 1) := by decide +kernel
theorem dX2_init_1 : decode cX2_init 1 = .ok (.invokespecial 1, 3) := by decide +kernel
theorem dX2_init_4 : decode cX2_init 4 = .ok (.aload_n 0, 1) := by decide +kernel
theorem dX2_init_5 : decode cX2_init 5 = .ok (.new 7, 3) := by decide +kernel
theorem dX2_init_8 : decode cX2_init 8 = .ok (.dup, 1) := by decide +kernel
theorem dX2_init_9 : decode cX2_init 9 = .ok (.invokespecial 9, 3) := by decide +kernel
theorem dX2_init_12 : decode cX2_init 12 = .ok (.putfield 10, 3) := by decide +kernel
theorem dX2_init_15 : decode cX2_init 15 = .ok (.aload_n 0, 1) := by decide +kernel
theorem dX2_init_16 : decode cX2_init 16 = .ok (.new 16, 3) := by decide +kernel
theorem dX2_init_19 : decode cX2_init 19 = .ok (.dup, 1) := by decide +kernel
theorem dX2_init_20 : decode cX2_init 20 = .ok (.aload_n 0, 1) := by decide +kernel
theorem dX2_init_21 : decode cX2_init 21 = .ok (.getfield 10, 3) := by decide +kernel
theorem dX2_init_24 : decode cX2_init 24 = .ok (.invokespecial 18, 3) := by decide +kernel
theorem dX2_init_27 : decode cX2_init 27 = .ok (.putfield 21, 3) := by decide +kernel
theorem dX2_init_30 : decode cX2_init 30 = .ok (.aload_n 0, 1) := by decide +kernel
theorem dX2_init_31 : decode cX2_init 31 = .ok (.new 16, 3) := by decide +kernel
theorem dX2_init_34 : decode cX2_init 34 = .ok (.dup, 1) := by decide +kernel
theorem dX2_init_35 : decode cX2_init 35 = .ok (.aload_n 0, 1) := by decide +kernel
theorem dX2_init_36 : decode cX2_init 36 = .ok (.getfield 10, 3) := by decide +kernel
theorem dX2_init_39 : decode cX2_init 39 = .ok (.invokespecial 18, 3) := by decide +kernel
theorem dX2_init_42 : decode cX2_init 42 = .ok (.putfield 25, 3) := by decide +kernel
theorem dX2_init_45 : decode cX2_init 45 = .ok (.return_, 1) := by decide +kernel
set_option maxRecDepth 20000 in
theorem ggX2_set_X2_isWithin : GoodIn wsX2_set wsX2_isWithin := goodIn_r _ [9] (by decide +kernel) (by decide +kernel)
set_option maxRecDepth 20000 in
theorem gX2_set_X2_isWithin : GoodIn wsX2_set (va_wsS RX2 28 yX2_isWithin wsX2_isWithin) := goodIn_app (goodIn_of _ (by decide +kernel)) ggX2_set_X2_isWithin
set_option maxRecDepth 20000 in
theorem ggX2_set_X0_addGlass : GoodIn wsX2_set wsX0_addGlass := goodIn_r _ [13, 14, 15, 16, 17, 21, 22, 23, 24, 25, 26, 27, 28, 29, 30, 31, 32, 33, 34, 35] (by decide +kernel) (by decide +kernel)
set_option maxRecDepth 20000 in
theorem gX2_set_X0_addGlass_n41 : GoodIn wsX2_set (wsX0_addGlass) := ggX2_set_X0_addGlass
theorem dX2_set_0 : decode cX2_set 0 = .ok (.iload_n 1, 1) := by decide +kernel
theorem dX2_set_1 : decode cX2_set 1 = .ok (.iconst 0, 1) := by decide +kernel
theorem dX2_set_2 : decode cX2_set 2 = .ok (.iconst 3, 1) := by decide +kernel
theorem dX2_set_3 : decode cX2_set 3 = .ok (.invokestatic 28, 3) := by decide +kernel
theorem dX2_set_6 : decode cX2_set 6 = .ok (.ifCond .eq 13, 3) := by decide +kernel
theorem dX2_set_9 : decode cX2_set 9 = .ok (.iload_n 2, 1) := by decide +kernel
theorem dX2_set_10 : decode cX2_set 10 = .ok (.iconst 1, 1) := by decide +kernel
theorem dX2_set_11 : decode cX2_set 11 = .ok (.bipush 9, 2) := by decide +kernel
theorem dX2_set_13 : decode cX2_set 13 = .ok (.invokestatic 28, 3) := by decide +kernel
theorem dX2_set_16 : decode cX2_set 16 = .ok (.ifCond .ne 13, 3) := by decide +kernel
theorem dX2_set_19 : decode cX2_set 19 = .ok (.new 32, 3) := by decide +kernel
theorem dX2_set_22 : decode cX2_set 22 = .ok (.dup, 1) := by decide +kernel
theorem dX2_set_23 : decode cX2_set 23 = .ok (.ldc 34, 2) := by decide +kernel
theorem dX2_set_25 : decode cX2_set 25 = .ok (.invokespecial 36, 3) := by decide +kernel
theorem dX2_set_28 : decode cX2_set 28 = .ok (.athrow, 1) := by decide +kernel
theorem dX2_set_29 : decode cX2_set 29 = .ok (.iload_n 3, 1) := by decide +kernel
theorem dX2_set_30 : decode cX2_set 30 = .ok (.iconst 0, 1) := by decide +kernel
theorem dX2_set_31 : decode cX2_set 31 = .ok (.bipush 100, 2) := by decide +kernel
theorem dX2_set_33 : decode cX2_set 33 = .ok (.iload_n 2, 1) := by decide +kernel
theorem dX2_set_34 : decode cX2_set 34 = .ok (.imul, 1) := by decide +kernel
theorem dX2_set_35 : decode cX2_set 35 = .ok (.invokestatic 28, 3) := by decide +kernel
theorem dX2_set_38 : decode cX2_set 38 = .ok (.ifCond .ne 13, 3) := by decide +kernel
theorem dX2_set_41 : decode cX2_set 41 = .ok (.new 32, 3) := by decide +kernel
theorem dX2_set_44 : decode cX2_set 44 = .ok (.dup, 1) := by decide +kernel
theorem dX2_set_45 : decode cX2_set 45 = .ok (.ldc 39, 2) := by decide +kernel
theorem dX2_set_47 : decode cX2_set 47 = .ok (.invokespecial 36, 3) := by decide +kernel
theorem dX2_set_50 : decode cX2_set 50 = .ok (.athrow, 1) := by decide +kernel
theorem dX2_set_51 : decode cX2_set 51 = .ok (.aload_n 0, 1) := by decide +kernel
theorem dX2_set_52 : decode cX2_set 52 = .ok (.getfield 21, 3) := by decide +kernel
theorem dX2_set_55 : decode cX2_set 55 = .ok (.iload_n 1, 1) := by decide +kernel
theorem dX2_set_56 : decode cX2_set 56 = .ok (.iload_n 2, 1) := by decide +kernel
theorem dX2_set_57 : decode cX2_set 57 = .ok (.iload_n 3, 1) := by decide +kernel
theorem dX2_set_58 : decode cX2_set 58 = .ok (.invokevirtual 41, 3) := by decide +kernel
theorem dX2_set_61 : decode cX2_set 61 = .ok (.istore 4, 2) := by decide +kernel
theorem dX2_set_63 : decode cX2_set 63 = .ok (.iload 4, 2) := by decide +kernel
theorem dX2_set_65 : decode cX2_set 65 = .ok (.iconst (-1), 1) := by decide +kernel
theorem dX2_set_66 : decode cX2_set 66 = .ok (.if_icmp .ne 13, 3) := by decide +kernel
theorem dX2_set_69 : decode cX2_set 69 = .ok (.new 45, 3) := by decide +kernel
theorem dX2_set_72 : decode cX2_set 72 = .ok (.dup, 1) := by decide +kernel
theorem dX2_set_73 : decode cX2_set 73 = .ok (.ldc 47, 2) := by decide +kernel
theorem dX2_set_75 : decode cX2_set 75 = .ok (.invokespecial 49, 3) := by decide +kernel
theorem dX2_set_78 : decode cX2_set 78 = .ok (.athrow, 1) := by decide +kernel
theorem dX2_set_79 : decode cX2_set 79 = .ok (.iload 4, 2) := by decide +kernel
theorem dX2_set_81 : decode cX2_set 81 = .ok (.ireturn, 1) := by decide +kernel
set_option maxRecDepth 20000 in
theorem ggX2_drop_X0_hasGlass : GoodIn wsX2_drop wsX0_hasGlass := goodIn_r _ [11, 12, 39, 40, 41, 42, 43, 44, 45, 46, 47, 48, 49, 50, 51, 52, 53] (by decide +kernel) (by decide +kernel)
set_option maxRecDepth 20000 in
theorem gX2_drop_X0_hasGlass_n50 : GoodIn wsX2_drop (wsX0_hasGlass) := ggX2_drop_X0_hasGlass
set_option maxRecDepth 20000 in
theorem ggX2_drop_X2_isWithin : GoodIn wsX2_drop wsX2_isWithin := goodIn_r _ [16] (by decide +kernel) (by decide +kernel)
set_option maxRecDepth 20000 in
theorem gX2_drop_X2_isWithin : GoodIn wsX2_drop (va_wsS RX2 28 yX2_isWithin wsX2_isWithin) := goodIn_app (goodIn_of _ (by decide +kernel)) ggX2_drop_X2_isWithin
set_option maxRecDepth 20000 in
theorem ggX2_drop_X0_mostDrops : GoodIn wsX2_drop wsX0_mostDrops := goodIn_r _ [19, 20, 21, 8, 10, 9, 11, 12, 39, 40, 41, 42, 43, 44, 45, 46, 47, 48, 49, 50, 51, 52, 53] (by decide +kernel) (by decide +kernel)
set_option maxRecDepth 20000 in
theorem gX2_drop_X0_mostDrops_n71 : GoodIn wsX2_drop (wsX0_mostDrops) := ggX2_drop_X0_mostDrops
set_option maxRecDepth 20000 in
theorem ggX2_drop_X0_toneOf : GoodIn wsX2_drop wsX0_toneOf := goodIn_r _ [24, 20, 25, 26, 27, 28, 29, 21, 8, 10, 9, 11, 12, 30, 31, 32, 33, 34, 35, 39, 40, 41, 42, 43, 44, 45, 46, 47, 48, 49, 50, 51, 52, 53] (by decide +kernel) (by decide +kernel)
set_option maxRecDepth 20000 in
theorem gX2_drop_X0_toneOf_n77 : GoodIn wsX2_drop (wsX0_toneOf) := ggX2_drop_X0_toneOf
theorem dX2_drop_0 : decode cX2_drop 0 = .ok (.aload_n 0, 1) := by decide +kernel
theorem dX2_drop_1 : decode cX2_drop 1 = .ok (.getfield 21, 3) := by decide +kernel
theorem dX2_drop_4 : decode cX2_drop 4 = .ok (.iload_n 1, 1) := by decide +kernel
theorem dX2_drop_5 : decode cX2_drop 5 = .ok (.invokevirtual 50, 3) := by decide +kernel
theorem dX2_drop_8 : decode cX2_drop 8 = .ok (.ifCond .ne 13, 3) := by decide +kernel
theorem dX2_drop_11 : decode cX2_drop 11 = .ok (.new 54, 3) := by decide +kernel
theorem dX2_drop_14 : decode cX2_drop 14 = .ok (.dup, 1) := by decide +kernel
theorem dX2_drop_15 : decode cX2_drop 15 = .ok (.ldc 56, 2) := by decide +kernel
theorem dX2_drop_17 : decode cX2_drop 17 = .ok (.invokespecial 58, 3) := by decide +kernel
theorem dX2_drop_20 : decode cX2_drop 20 = .ok (.athrow, 1) := by decide +kernel
theorem dX2_drop_21 : decode cX2_drop 21 = .ok (.iload_n 2, 1) := by decide +kernel
theorem dX2_drop_22 : decode cX2_drop 22 = .ok (.ifCond .eq 16, 3) := by decide +kernel
theorem dX2_drop_25 : decode cX2_drop 25 = .ok (.iload_n 2, 1) := by decide +kernel
theorem dX2_drop_26 : decode cX2_drop 26 = .ok (.sipush (-200), 3) := by decide +kernel
theorem dX2_drop_29 : decode cX2_drop 29 = .ok (.sipush 200, 3) := by decide +kernel
theorem dX2_drop_32 : decode cX2_drop 32 = .ok (.invokestatic 28, 3) := by decide +kernel
theorem dX2_drop_35 : decode cX2_drop 35 = .ok (.ifCond .ne 13, 3) := by decide +kernel
theorem dX2_drop_38 : decode cX2_drop 38 = .ok (.new 32, 3) := by decide +kernel
theorem dX2_drop_41 : decode cX2_drop 41 = .ok (.dup, 1) := by decide +kernel
theorem dX2_drop_42 : decode cX2_drop 42 = .ok (.ldc 59, 2) := by decide +kernel
theorem dX2_drop_44 : decode cX2_drop 44 = .ok (.invokespecial 36, 3) := by decide +kernel
theorem dX2_drop_47 : decode cX2_drop 47 = .ok (.athrow, 1) := by decide +kernel
theorem dX2_drop_48 : decode cX2_drop 48 = .ok (.aload_n 0, 1) := by decide +kernel
theorem dX2_drop_49 : decode cX2_drop 49 = .ok (.getfield 21, 3) := by decide +kernel
theorem dX2_drop_52 : decode cX2_drop 52 = .ok (.getfield 61, 3) := by decide +kernel
theorem dX2_drop_55 : decode cX2_drop 55 = .ok (.iload_n 1, 1) := by decide +kernel
theorem dX2_drop_56 : decode cX2_drop 56 = .ok (.baload, 1) := by decide +kernel
theorem dX2_drop_57 : decode cX2_drop 57 = .ok (.ifCond .eq 13, 3) := by decide +kernel
theorem dX2_drop_60 : decode cX2_drop 60 = .ok (.new 45, 3) := by decide +kernel
theorem dX2_drop_63 : decode cX2_drop 63 = .ok (.dup, 1) := by decide +kernel
theorem dX2_drop_64 : decode cX2_drop 64 = .ok (.ldc 65, 2) := by decide +kernel
theorem dX2_drop_66 : decode cX2_drop 66 = .ok (.invokespecial 49, 3) := by decide +kernel
theorem dX2_drop_69 : decode cX2_drop 69 = .ok (.athrow, 1) := by decide +kernel
theorem dX2_drop_70 : decode cX2_drop 70 = .ok (.aload_n 0, 1) := by decide +kernel
theorem dX2_drop_71 : decode cX2_drop 71 = .ok (.getfield 21, 3) := by decide +kernel
theorem dX2_drop_74 : decode cX2_drop 74 = .ok (.getfield 67, 3) := by decide +kernel
theorem dX2_drop_77 : decode cX2_drop 77 = .ok (.iload_n 1, 1) := by decide +kernel
theorem dX2_drop_78 : decode cX2_drop 78 = .ok (.iaload, 1) := by decide +kernel
theorem dX2_drop_79 : decode cX2_drop 79 = .ok (.iload_n 2, 1) := by decide +kernel
theorem dX2_drop_80 : decode cX2_drop 80 = .ok (.iadd, 1) := by decide +kernel
theorem dX2_drop_81 : decode cX2_drop 81 = .ok (.istore_n 3, 1) := by decide +kernel
theorem dX2_drop_82 : decode cX2_drop 82 = .ok (.iload_n 3, 1) := by decide +kernel
theorem dX2_drop_83 : decode cX2_drop 83 = .ok (.iconst 0, 1) := by decide +kernel
theorem dX2_drop_84 : decode cX2_drop 84 = .ok (.aload_n 0, 1) := by decide +kernel
theorem dX2_drop_85 : decode cX2_drop 85 = .ok (.getfield 21, 3) := by decide +kernel
theorem dX2_drop_88 : decode cX2_drop 88 = .ok (.iload_n 1, 1) := by decide +kernel
theorem dX2_drop_89 : decode cX2_drop 89 = .ok (.invokevirtual 71, 3) := by decide +kernel
theorem dX2_drop_92 : decode cX2_drop 92 = .ok (.invokestatic 28, 3) := by decide +kernel
theorem dX2_drop_95 : decode cX2_drop 95 = .ok (.ifCond .ne 13, 3) := by decide +kernel
theorem dX2_drop_98 : decode cX2_drop 98 = .ok (.new 45, 3) := by decide +kernel
theorem dX2_drop_101 : decode cX2_drop 101 = .ok (.dup, 1) := by decide +kernel
theorem dX2_drop_102 : decode cX2_drop 102 = .ok (.ldc 75, 2) := by decide +kernel
theorem dX2_drop_104 : decode cX2_drop 104 = .ok (.invokespecial 49, 3) := by decide +kernel
theorem dX2_drop_107 : decode cX2_drop 107 = .ok (.athrow, 1) := by decide +kernel
theorem dX2_drop_108 : decode cX2_drop 108 = .ok (.aload_n 0, 1) := by decide +kernel
theorem dX2_drop_109 : decode cX2_drop 109 = .ok (.getfield 21, 3) := by decide +kernel
theorem dX2_drop_112 : decode cX2_drop 112 = .ok (.getfield 67, 3) := by decide +kernel
theorem dX2_drop_115 : decode cX2_drop 115 = .ok (.iload_n 1, 1) := by decide +kernel
theorem dX2_drop_116 : decode cX2_drop 116 = .ok (.iload_n 3, 1) := by decide +kernel
theorem dX2_drop_117 : decode cX2_drop 117 = .ok (.iastore, 1) := by decide +kernel
theorem dX2_drop_118 : decode cX2_drop 118 = .ok (.aload_n 0, 1) := by decide +kernel
theorem dX2_drop_119 : decode cX2_drop 119 = .ok (.getfield 21, 3) := by decide +kernel
theorem dX2_drop_122 : decode cX2_drop 122 = .ok (.iload_n 1, 1) := by decide +kernel
theorem dX2_drop_123 : decode cX2_drop 123 = .ok (.invokevirtual 77, 3) := by decide +kernel
theorem dX2_drop_126 : decode cX2_drop 126 = .ok (.ireturn, 1) := by decide +kernel
set_option maxRecDepth 20000 in
theorem ggX2_pump_X2_isWithin : GoodIn wsX2_pump wsX2_isWithin := goodIn_r _ [9] (by decide +kernel) (by decide +kernel)
set_option maxRecDepth 20000 in
theorem gX2_pump_X2_isWithin : GoodIn wsX2_pump (va_wsS RX2 28 yX2_isWithin wsX2_isWithin) := goodIn_app (goodIn_of _ (by decide +kernel)) ggX2_pump_X2_isWithin
theorem dX2_pump_0 : decode cX2_pump 0 = .ok (.iload_n 1, 1) := by decide +kernel
theorem dX2_pump_1 : decode cX2_pump 1 = .ok (.iconst 0, 1) := by decide +kernel
theorem dX2_pump_2 : decode cX2_pump 2 = .ok (.iconst 3, 1) := by decide +kernel
theorem dX2_pump_3 : decode cX2_pump 3 = .ok (.invokestatic 28, 3) := by decide +kernel
theorem dX2_pump_6 : decode cX2_pump 6 = .ok (.ifCond .ne 13, 3) := by decide +kernel
theorem dX2_pump_9 : decode cX2_pump 9 = .ok (.new 54, 3) := by decide +kernel
theorem dX2_pump_12 : decode cX2_pump 12 = .ok (.dup, 1) := by decide +kernel
theorem dX2_pump_13 : decode cX2_pump 13 = .ok (.ldc 80, 2) := by decide +kernel
theorem dX2_pump_15 : decode cX2_pump 15 = .ok (.invokespecial 58, 3) := by decide +kernel
theorem dX2_pump_18 : decode cX2_pump 18 = .ok (.athrow, 1) := by decide +kernel
theorem dX2_pump_19 : decode cX2_pump 19 = .ok (.iload_n 2, 1) := by decide +kernel
theorem dX2_pump_20 : decode cX2_pump 20 = .ok (.iconst 0, 1) := by decide +kernel
theorem dX2_pump_21 : decode cX2_pump 21 = .ok (.bipush 9, 2) := by decide +kernel
theorem dX2_pump_23 : decode cX2_pump 23 = .ok (.invokestatic 28, 3) := by decide +kernel
theorem dX2_pump_26 : decode cX2_pump 26 = .ok (.ifCond .ne 13, 3) := by decide +kernel
theorem dX2_pump_29 : decode cX2_pump 29 = .ok (.new 32, 3) := by decide +kernel
theorem dX2_pump_32 : decode cX2_pump 32 = .ok (.dup, 1) := by decide +kernel
theorem dX2_pump_33 : decode cX2_pump 33 = .ok (.ldc 82, 2) := by decide +kernel
theorem dX2_pump_35 : decode cX2_pump 35 = .ok (.invokespecial 36, 3) := by decide +kernel
theorem dX2_pump_38 : decode cX2_pump 38 = .ok (.athrow, 1) := by decide +kernel
theorem dX2_pump_39 : decode cX2_pump 39 = .ok (.aload_n 0, 1) := by decide +kernel
theorem dX2_pump_40 : decode cX2_pump 40 = .ok (.getfield 21, 3) := by decide +kernel
theorem dX2_pump_43 : decode cX2_pump 43 = .ok (.getfield 84, 3) := by decide +kernel
theorem dX2_pump_46 : decode cX2_pump 46 = .ok (.iload_n 1, 1) := by decide +kernel
theorem dX2_pump_47 : decode cX2_pump 47 = .ok (.iaload, 1) := by decide +kernel
theorem dX2_pump_48 : decode cX2_pump 48 = .ok (.istore_n 3, 1) := by decide +kernel
theorem dX2_pump_49 : decode cX2_pump 49 = .ok (.aload_n 0, 1) := by decide +kernel
theorem dX2_pump_50 : decode cX2_pump 50 = .ok (.getfield 21, 3) := by decide +kernel
theorem dX2_pump_53 : decode cX2_pump 53 = .ok (.getfield 84, 3) := by decide +kernel
theorem dX2_pump_56 : decode cX2_pump 56 = .ok (.iload_n 1, 1) := by decide +kernel
theorem dX2_pump_57 : decode cX2_pump 57 = .ok (.iload_n 2, 1) := by decide +kernel
theorem dX2_pump_58 : decode cX2_pump 58 = .ok (.iastore, 1) := by decide +kernel
theorem dX2_pump_59 : decode cX2_pump 59 = .ok (.iload_n 3, 1) := by decide +kernel
theorem dX2_pump_60 : decode cX2_pump 60 = .ok (.ireturn, 1) := by decide +kernel
set_option maxRecDepth 20000 in
theorem ggX2_glass_X0_hasGlass : GoodIn wsX2_glass wsX0_hasGlass := goodIn_r _ [7, 8, 43, 44, 45, 46, 47, 48, 49, 50, 51, 52, 53, 54, 55, 56, 57] (by decide +kernel) (by decide +kernel)
set_option maxRecDepth 20000 in
theorem gX2_glass_X0_hasGlass_n50 : GoodIn wsX2_glass (wsX0_hasGlass) := ggX2_glass_X0_hasGlass
set_option maxRecDepth 20000 in
theorem ggX2_glass_X2_isWithin : GoodIn wsX2_glass wsX2_isWithin := goodIn_r _ [12] (by decide +kernel) (by decide +kernel)
set_option maxRecDepth 20000 in
theorem gX2_glass_X2_isWithin : GoodIn wsX2_glass (va_wsS RX2 28 yX2_isWithin wsX2_isWithin) := goodIn_app (goodIn_of _ (by decide +kernel)) ggX2_glass_X2_isWithin
set_option maxRecDepth 20000 in
theorem ggX2_glass_X0_toneOf : GoodIn wsX2_glass wsX0_toneOf := goodIn_r _ [15, 16, 17, 18, 19, 20, 21, 22, 4, 6, 5, 7, 8, 23, 24, 25, 26, 27, 28, 43, 44, 45, 46, 47, 48, 49, 50, 51, 52, 53, 54, 55, 56, 57] (by decide +kernel) (by decide +kernel)
set_option maxRecDepth 20000 in
theorem gX2_glass_X0_toneOf_n77 : GoodIn wsX2_glass (wsX0_toneOf) := ggX2_glass_X0_toneOf
set_option maxRecDepth 20000 in
theorem ggX2_glass_X0_glassesBeatingAgainst : GoodIn wsX2_glass wsX0_glassesBeatingAgainst := goodIn_r _ [31, 8, 32, 33, 34, 5, 35, 36, 22, 4, 6, 7, 37, 13, 14, 15, 16, 17, 18, 19, 20, 21, 23, 24, 25, 26, 27, 28, 38, 11, 39, 10, 12, 43, 44, 45, 46, 47, 48, 49, 50, 51, 52, 53, 54, 55, 56, 57] (by decide +kernel) (by decide +kernel)
set_option maxRecDepth 20000 in
theorem gX2_glass_X0_glassesBeatingAgainst_n101 : GoodIn wsX2_glass (wsX0_glassesBeatingAgainst) := ggX2_glass_X0_glassesBeatingAgainst
theorem dX2_glass_0 : decode cX2_glass 0 = .ok (.aload_n 0, 1) := by decide +kernel
theorem dX2_glass_1 : decode cX2_glass 1 = .ok (.getfield 21, 3) := by decide +kernel
theorem dX2_glass_4 : decode cX2_glass 4 = .ok (.iload_n 1, 1) := by decide +kernel
theorem dX2_glass_5 : decode cX2_glass 5 = .ok (.invokevirtual 50, 3) := by decide +kernel
theorem dX2_glass_8 : decode cX2_glass 8 = .ok (.ifCond .eq 13, 3) := by decide +kernel
theorem dX2_glass_11 : decode cX2_glass 11 = .ok (.iload_n 2, 1) := by decide +kernel
theorem dX2_glass_12 : decode cX2_glass 12 = .ok (.iconst 0, 1) := by decide +kernel
theorem dX2_glass_13 : decode cX2_glass 13 = .ok (.bipush 7, 2) := by decide +kernel
theorem dX2_glass_15 : decode cX2_glass 15 = .ok (.invokestatic 28, 3) := by decide +kernel
theorem dX2_glass_18 : decode cX2_glass 18 = .ok (.ifCond .ne 13, 3) := by decide +kernel
theorem dX2_glass_21 : decode cX2_glass 21 = .ok (.new 54, 3) := by decide +kernel
theorem dX2_glass_24 : decode cX2_glass 24 = .ok (.dup, 1) := by decide +kernel
theorem dX2_glass_25 : decode cX2_glass 25 = .ok (.ldc 87, 2) := by decide +kernel
theorem dX2_glass_27 : decode cX2_glass 27 = .ok (.invokespecial 58, 3) := by decide +kernel
theorem dX2_glass_30 : decode cX2_glass 30 = .ok (.athrow, 1) := by decide +kernel
theorem dX2_glass_31 : decode cX2_glass 31 = .ok (.iload_n 2, 1) := by decide +kernel
theorem dX2_glass_32 : decode cX2_glass 32 = .ok (.tableswitch 121 0 6 #[44, 54, 64, 74, 83, 101, 111], 44) := by decide +kernel
theorem dX2_glass_76 : decode cX2_glass 76 = .ok (.aload_n 0, 1) := by decide +kernel
theorem dX2_glass_77 : decode cX2_glass 77 = .ok (.getfield 21, 3) := by decide +kernel
theorem dX2_glass_80 : decode cX2_glass 80 = .ok (.getfield 89, 3) := by decide +kernel
theorem dX2_glass_83 : decode cX2_glass 83 = .ok (.iload_n 1, 1) := by decide +kernel
theorem dX2_glass_84 : decode cX2_glass 84 = .ok (.iaload, 1) := by decide +kernel
theorem dX2_glass_85 : decode cX2_glass 85 = .ok (.ireturn, 1) := by decide +kernel
theorem dX2_glass_86 : decode cX2_glass 86 = .ok (.aload_n 0, 1) := by decide +kernel
theorem dX2_glass_87 : decode cX2_glass 87 = .ok (.getfield 21, 3) := by decide +kernel
theorem dX2_glass_90 : decode cX2_glass 90 = .ok (.getfield 92, 3) := by decide +kernel
theorem dX2_glass_93 : decode cX2_glass 93 = .ok (.iload_n 1, 1) := by decide +kernel
theorem dX2_glass_94 : decode cX2_glass 94 = .ok (.iaload, 1) := by decide +kernel
theorem dX2_glass_95 : decode cX2_glass 95 = .ok (.ireturn, 1) := by decide +kernel
theorem dX2_glass_96 : decode cX2_glass 96 = .ok (.aload_n 0, 1) := by decide +kernel
theorem dX2_glass_97 : decode cX2_glass 97 = .ok (.getfield 21, 3) := by decide +kernel
theorem dX2_glass_100 : decode cX2_glass 100 = .ok (.getfield 67, 3) := by decide +kernel
theorem dX2_glass_103 : decode cX2_glass 103 = .ok (.iload_n 1, 1) := by decide +kernel
theorem dX2_glass_104 : decode cX2_glass 104 = .ok (.iaload, 1) := by decide +kernel
theorem dX2_glass_105 : decode cX2_glass 105 = .ok (.ireturn, 1) := by decide +kernel
theorem dX2_glass_106 : decode cX2_glass 106 = .ok (.aload_n 0, 1) := by decide +kernel
theorem dX2_glass_107 : decode cX2_glass 107 = .ok (.getfield 21, 3) := by decide +kernel
theorem dX2_glass_110 : decode cX2_glass 110 = .ok (.iload_n 1, 1) := by decide +kernel
theorem dX2_glass_111 : decode cX2_glass 111 = .ok (.invokevirtual 77, 3) := by decide +kernel
theorem dX2_glass_114 : decode cX2_glass 114 = .ok (.ireturn, 1) := by decide +kernel
theorem dX2_glass_115 : decode cX2_glass 115 = .ok (.aload_n 0, 1) := by decide +kernel
theorem dX2_glass_116 : decode cX2_glass 116 = .ok (.getfield 21, 3) := by decide +kernel
theorem dX2_glass_119 : decode cX2_glass 119 = .ok (.getfield 61, 3) := by decide +kernel
theorem dX2_glass_122 : decode cX2_glass 122 = .ok (.iload_n 1, 1) := by decide +kernel
theorem dX2_glass_123 : decode cX2_glass 123 = .ok (.baload, 1) := by decide +kernel
theorem dX2_glass_124 : decode cX2_glass 124 = .ok (.ifCond .eq 7, 3) := by decide +kernel
theorem dX2_glass_127 : decode cX2_glass 127 = .ok (.iconst 1, 1) := by decide +kernel
theorem dX2_glass_128 : decode cX2_glass 128 = .ok (.goto 4, 3) := by decide +kernel
theorem dX2_glass_131 : decode cX2_glass 131 = .ok (.iconst 0, 1) := by decide +kernel
theorem dX2_glass_132 : decode cX2_glass 132 = .ok (.ireturn, 1) := by decide +kernel
theorem dX2_glass_133 : decode cX2_glass 133 = .ok (.aload_n 0, 1) := by decide +kernel
theorem dX2_glass_134 : decode cX2_glass 134 = .ok (.getfield 21, 3) := by decide +kernel
theorem dX2_glass_137 : decode cX2_glass 137 = .ok (.getfield 95, 3) := by decide +kernel
theorem dX2_glass_140 : decode cX2_glass 140 = .ok (.iload_n 1, 1) := by decide +kernel
theorem dX2_glass_141 : decode cX2_glass 141 = .ok (.iaload, 1) := by decide +kernel
theorem dX2_glass_142 : decode cX2_glass 142 = .ok (.ireturn, 1) := by decide +kernel
theorem dX2_glass_143 : decode cX2_glass 143 = .ok (.aload_n 0, 1) := by decide +kernel
theorem dX2_glass_144 : decode cX2_glass 144 = .ok (.getfield 21, 3) := by decide +kernel
theorem dX2_glass_147 : decode cX2_glass 147 = .ok (.getfield 98, 3) := by decide +kernel
theorem dX2_glass_150 : decode cX2_glass 150 = .ok (.iload_n 1, 1) := by decide +kernel
theorem dX2_glass_151 : decode cX2_glass 151 = .ok (.iaload, 1) := by decide +kernel
theorem dX2_glass_152 : decode cX2_glass 152 = .ok (.ireturn, 1) := by decide +kernel
theorem dX2_glass_153 : decode cX2_glass 153 = .ok (.aload_n 0, 1) := by decide +kernel
theorem dX2_glass_154 : decode cX2_glass 154 = .ok (.getfield 21, 3) := by decide +kernel
theorem dX2_glass_157 : decode cX2_glass 157 = .ok (.iload_n 1, 1) := by decide +kernel
theorem dX2_glass_158 : decode cX2_glass 158 = .ok (.invokevirtual 101, 3) := by decide +kernel
theorem dX2_glass_161 : decode cX2_glass 161 = .ok (.ireturn, 1) := by decide +kernel
set_option maxRecDepth 20000 in
theorem ggX2_row_X2_isWithin : GoodIn wsX2_row wsX2_isWithin := goodIn_r _ [7] (by decide +kernel) (by decide +kernel)
set_option maxRecDepth 20000 in
theorem gX2_row_X2_isWithin : GoodIn wsX2_row (va_wsS RX2 28 yX2_isWithin wsX2_isWithin) := goodIn_app (goodIn_of _ (by decide +kernel)) ggX2_row_X2_isWithin
set_option maxRecDepth 20000 in
theorem ggX2_row_X0_glassesInRow : GoodIn wsX2_row wsX0_glassesInRow := goodIn_r _ [11, 12, 13, 17, 18, 19, 20, 21, 22, 23, 24, 25, 26, 27, 28, 29, 30, 31] (by decide +kernel) (by decide +kernel)
set_option maxRecDepth 20000 in
theorem gX2_row_X0_glassesInRow_n109 : GoodIn wsX2_row (wsX0_glassesInRow) := ggX2_row_X0_glassesInRow
theorem dX2_row_0 : decode cX2_row 0 = .ok (.iload_n 1, 1) := by decide +kernel
theorem dX2_row_1 : decode cX2_row 1 = .ok (.iconst 0, 1) := by decide +kernel
theorem dX2_row_2 : decode cX2_row 2 = .ok (.iconst 3, 1) := by decide +kernel
theorem dX2_row_3 : decode cX2_row 3 = .ok (.invokestatic 28, 3) := by decide +kernel
theorem dX2_row_6 : decode cX2_row 6 = .ok (.ifCond .eq 12, 3) := by decide +kernel
theorem dX2_row_9 : decode cX2_row 9 = .ok (.iload_n 2, 1) := by decide +kernel
theorem dX2_row_10 : decode cX2_row 10 = .ok (.iconst 0, 1) := by decide +kernel
theorem dX2_row_11 : decode cX2_row 11 = .ok (.iconst 2, 1) := by decide +kernel
theorem dX2_row_12 : decode cX2_row 12 = .ok (.invokestatic 28, 3) := by decide +kernel
theorem dX2_row_15 : decode cX2_row 15 = .ok (.ifCond .ne 13, 3) := by decide +kernel
theorem dX2_row_18 : decode cX2_row 18 = .ok (.new 54, 3) := by decide +kernel
theorem dX2_row_21 : decode cX2_row 21 = .ok (.dup, 1) := by decide +kernel
theorem dX2_row_22 : decode cX2_row 22 = .ok (.ldc 104, 2) := by decide +kernel
theorem dX2_row_24 : decode cX2_row 24 = .ok (.invokespecial 58, 3) := by decide +kernel
theorem dX2_row_27 : decode cX2_row 27 = .ok (.athrow, 1) := by decide +kernel
theorem dX2_row_28 : decode cX2_row 28 = .ok (.iload_n 2, 1) := by decide +kernel
theorem dX2_row_29 : decode cX2_row 29 = .ok (.lookupswitch 47 #[(0, 27), (1, 37)], 27) := by decide +kernel
theorem dX2_row_56 : decode cX2_row 56 = .ok (.aload_n 0, 1) := by decide +kernel
theorem dX2_row_57 : decode cX2_row 57 = .ok (.getfield 21, 3) := by decide +kernel
theorem dX2_row_60 : decode cX2_row 60 = .ok (.getfield 106, 3) := by decide +kernel
theorem dX2_row_63 : decode cX2_row 63 = .ok (.iload_n 1, 1) := by decide +kernel
theorem dX2_row_64 : decode cX2_row 64 = .ok (.iaload, 1) := by decide +kernel
theorem dX2_row_65 : decode cX2_row 65 = .ok (.ireturn, 1) := by decide +kernel
theorem dX2_row_66 : decode cX2_row 66 = .ok (.aload_n 0, 1) := by decide +kernel
theorem dX2_row_67 : decode cX2_row 67 = .ok (.getfield 21, 3) := by decide +kernel
theorem dX2_row_70 : decode cX2_row 70 = .ok (.getfield 84, 3) := by decide +kernel
theorem dX2_row_73 : decode cX2_row 73 = .ok (.iload_n 1, 1) := by decide +kernel
theorem dX2_row_74 : decode cX2_row 74 = .ok (.iaload, 1) := by decide +kernel
theorem dX2_row_75 : decode cX2_row 75 = .ok (.ireturn, 1) := by decide +kernel
theorem dX2_row_76 : decode cX2_row 76 = .ok (.aload_n 0, 1) := by decide +kernel
theorem dX2_row_77 : decode cX2_row 77 = .ok (.getfield 21, 3) := by decide +kernel
theorem dX2_row_80 : decode cX2_row 80 = .ok (.iload_n 1, 1) := by decide +kernel
theorem dX2_row_81 : decode cX2_row 81 = .ok (.invokevirtual 109, 3) := by decide +kernel
theorem dX2_row_84 : decode cX2_row 84 = .ok (.ireturn, 1) := by decide +kernel
set_option maxRecDepth 20000 in
theorem ggX2_setLength_X2_isWithin : GoodIn wsX2_setLength wsX2_isWithin := goodIn_r _ [7] (by decide +kernel) (by decide +kernel)
set_option maxRecDepth 20000 in
theorem gX2_setLength_X2_isWithin : GoodIn wsX2_setLength (va_wsS RX2 28 yX2_isWithin wsX2_isWithin) := goodIn_app (goodIn_of _ (by decide +kernel)) ggX2_setLength_X2_isWithin
theorem dX2_setLength_0 : decode cX2_setLength 0 = .ok (.iload_n 1, 1) := by decide +kernel
theorem dX2_setLength_1 : decode cX2_setLength 1 = .ok (.iconst 1, 1) := by decide +kernel
theorem dX2_setLength_2 : decode cX2_setLength 2 = .ok (.bipush 64, 2) := by decide +kernel
theorem dX2_setLength_4 : decode cX2_setLength 4 = .ok (.invokestatic 28, 3) := by decide +kernel
theorem dX2_setLength_7 : decode cX2_setLength 7 = .ok (.ifCond .ne 13, 3) := by decide +kernel
theorem dX2_setLength_10 : decode cX2_setLength 10 = .ok (.new 32, 3) := by decide +kernel
theorem dX2_setLength_13 : decode cX2_setLength 13 = .ok (.dup, 1) := by decide +kernel
theorem dX2_setLength_14 : decode cX2_setLength 14 = .ok (.ldc 112, 2) := by decide +kernel
theorem dX2_setLength_16 : decode cX2_setLength 16 = .ok (.invokespecial 36, 3) := by decide +kernel
theorem dX2_setLength_19 : decode cX2_setLength 19 = .ok (.athrow, 1) := by decide +kernel
theorem dX2_setLength_20 : decode cX2_setLength 20 = .ok (.aload_n 0, 1) := by decide +kernel
theorem dX2_setLength_21 : decode cX2_setLength 21 = .ok (.getfield 10, 3) := by decide +kernel
theorem dX2_setLength_24 : decode cX2_setLength 24 = .ok (.getfield 114, 3) := by decide +kernel
theorem dX2_setLength_27 : decode cX2_setLength 27 = .ok (.istore_n 2, 1) := by decide +kernel
theorem dX2_setLength_28 : decode cX2_setLength 28 = .ok (.aload_n 0, 1) := by decide +kernel
theorem dX2_setLength_29 : decode cX2_setLength 29 = .ok (.getfield 10, 3) := by decide +kernel
theorem dX2_setLength_32 : decode cX2_setLength 32 = .ok (.iload_n 1, 1) := by decide +kernel
theorem dX2_setLength_33 : decode cX2_setLength 33 = .ok (.putfield 114, 3) := by decide +kernel
theorem dX2_setLength_36 : decode cX2_setLength 36 = .ok (.iload_n 2, 1) := by decide +kernel
theorem dX2_setLength_37 : decode cX2_setLength 37 = .ok (.ireturn, 1) := by decide +kernel
set_option maxRecDepth 20000 in
theorem ggX2_note_X2_isWithin : GoodIn wsX2_note wsX2_isWithin := goodIn_r _ [9] (by decide +kernel) (by decide +kernel)
set_option maxRecDepth 20000 in
theorem gX2_note_X2_isWithin : GoodIn wsX2_note (va_wsS RX2 28 yX2_isWithin wsX2_isWithin) := goodIn_app (goodIn_of _ (by decide +kernel)) ggX2_note_X2_isWithin
set_option maxRecDepth 20000 in
theorem ggX2_note_X1_write : GoodIn wsX2_note wsX1_write := goodIn_r _ [13, 14, 15, 16, 17, 21, 22, 23, 24, 25] (by decide +kernel) (by decide +kernel)
set_option maxRecDepth 20000 in
theorem gX2_note_X1_write_n122 : GoodIn wsX2_note (wsX1_write) := ggX2_note_X1_write
theorem dX2_note_0 : decode cX2_note 0 = .ok (.iload_n 1, 1) := by decide +kernel
theorem dX2_note_1 : decode cX2_note 1 = .ok (.iconst 0, 1) := by decide +kernel
theorem dX2_note_2 : decode cX2_note 2 = .ok (.bipush 63, 2) := by decide +kernel
theorem dX2_note_4 : decode cX2_note 4 = .ok (.invokestatic 28, 3) := by decide +kernel
theorem dX2_note_7 : decode cX2_note 7 = .ok (.ifCond .eq 13, 3) := by decide +kernel
theorem dX2_note_10 : decode cX2_note 10 = .ok (.iload_n 2, 1) := by decide +kernel
theorem dX2_note_11 : decode cX2_note 11 = .ok (.iconst 0, 1) := by decide +kernel
theorem dX2_note_12 : decode cX2_note 12 = .ok (.bipush 120, 2) := by decide +kernel
theorem dX2_note_14 : decode cX2_note 14 = .ok (.invokestatic 28, 3) := by decide +kernel
theorem dX2_note_17 : decode cX2_note 17 = .ok (.ifCond .ne 13, 3) := by decide +kernel
theorem dX2_note_20 : decode cX2_note 20 = .ok (.new 32, 3) := by decide +kernel
theorem dX2_note_23 : decode cX2_note 23 = .ok (.dup, 1) := by decide +kernel
theorem dX2_note_24 : decode cX2_note 24 = .ok (.ldc 118, 2) := by decide +kernel
theorem dX2_note_26 : decode cX2_note 26 = .ok (.invokespecial 36, 3) := by decide +kernel
theorem dX2_note_29 : decode cX2_note 29 = .ok (.athrow, 1) := by decide +kernel
theorem dX2_note_30 : decode cX2_note 30 = .ok (.iload_n 3, 1) := by decide +kernel
theorem dX2_note_31 : decode cX2_note 31 = .ok (.iconst 1, 1) := by decide +kernel
theorem dX2_note_32 : decode cX2_note 32 = .ok (.bipush 9, 2) := by decide +kernel
theorem dX2_note_34 : decode cX2_note 34 = .ok (.invokestatic 28, 3) := by decide +kernel
theorem dX2_note_37 : decode cX2_note 37 = .ok (.ifCond .ne 13, 3) := by decide +kernel
theorem dX2_note_40 : decode cX2_note 40 = .ok (.new 32, 3) := by decide +kernel
theorem dX2_note_43 : decode cX2_note 43 = .ok (.dup, 1) := by decide +kernel
theorem dX2_note_44 : decode cX2_note 44 = .ok (.ldc 120, 2) := by decide +kernel
theorem dX2_note_46 : decode cX2_note 46 = .ok (.invokespecial 36, 3) := by decide +kernel
theorem dX2_note_49 : decode cX2_note 49 = .ok (.athrow, 1) := by decide +kernel
theorem dX2_note_50 : decode cX2_note 50 = .ok (.aload_n 0, 1) := by decide +kernel
theorem dX2_note_51 : decode cX2_note 51 = .ok (.getfield 10, 3) := by decide +kernel
theorem dX2_note_54 : decode cX2_note 54 = .ok (.iload_n 1, 1) := by decide +kernel
theorem dX2_note_55 : decode cX2_note 55 = .ok (.iload_n 2, 1) := by decide +kernel
theorem dX2_note_56 : decode cX2_note 56 = .ok (.iload_n 3, 1) := by decide +kernel
theorem dX2_note_57 : decode cX2_note 57 = .ok (.invokevirtual 122, 3) := by decide +kernel
theorem dX2_note_60 : decode cX2_note 60 = .ok (.ifCond .ne 13, 3) := by decide +kernel
theorem dX2_note_63 : decode cX2_note 63 = .ok (.new 45, 3) := by decide +kernel
theorem dX2_note_66 : decode cX2_note 66 = .ok (.dup, 1) := by decide +kernel
theorem dX2_note_67 : decode cX2_note 67 = .ok (.ldc 125, 2) := by decide +kernel
theorem dX2_note_69 : decode cX2_note 69 = .ok (.invokespecial 49, 3) := by decide +kernel
theorem dX2_note_72 : decode cX2_note 72 = .ok (.athrow, 1) := by decide +kernel
theorem dX2_note_73 : decode cX2_note 73 = .ok (.aload_n 0, 1) := by decide +kernel
theorem dX2_note_74 : decode cX2_note 74 = .ok (.getfield 10, 3) := by decide +kernel
theorem dX2_note_77 : decode cX2_note 77 = .ok (.getfield 127, 3) := by decide +kernel
theorem dX2_note_80 : decode cX2_note 80 = .ok (.ireturn, 1) := by decide +kernel
set_option maxRecDepth 20000 in
theorem ggX2_strike_X1_hasNote : GoodIn wsX2_strike wsX1_hasNote := goodIn_r _ [7, 8, 19, 20, 21, 22, 23] (by decide +kernel) (by decide +kernel)
set_option maxRecDepth 20000 in
theorem gX2_strike_X1_hasNote_n130 : GoodIn wsX2_strike (wsX1_hasNote) := ggX2_strike_X1_hasNote
set_option maxRecDepth 20000 in
theorem ggX2_strike_X1_takeOut : GoodIn wsX2_strike wsX1_takeOut := goodIn_r _ [11, 8, 12, 13, 14, 15, 4, 6, 5, 7, 19, 20, 21, 22, 23] (by decide +kernel) (by decide +kernel)
set_option maxRecDepth 20000 in
theorem gX2_strike_X1_takeOut_n138 : GoodIn wsX2_strike (wsX1_takeOut) := ggX2_strike_X1_takeOut
theorem dX2_strike_0 : decode cX2_strike 0 = .ok (.aload_n 0, 1) := by decide +kernel
theorem dX2_strike_1 : decode cX2_strike 1 = .ok (.getfield 10, 3) := by decide +kernel
theorem dX2_strike_4 : decode cX2_strike 4 = .ok (.iload_n 1, 1) := by decide +kernel
theorem dX2_strike_5 : decode cX2_strike 5 = .ok (.invokevirtual 130, 3) := by decide +kernel
theorem dX2_strike_8 : decode cX2_strike 8 = .ok (.ifCond .ne 13, 3) := by decide +kernel
theorem dX2_strike_11 : decode cX2_strike 11 = .ok (.new 54, 3) := by decide +kernel
theorem dX2_strike_14 : decode cX2_strike 14 = .ok (.dup, 1) := by decide +kernel
theorem dX2_strike_15 : decode cX2_strike 15 = .ok (.ldc 133, 2) := by decide +kernel
theorem dX2_strike_17 : decode cX2_strike 17 = .ok (.invokespecial 58, 3) := by decide +kernel
theorem dX2_strike_20 : decode cX2_strike 20 = .ok (.athrow, 1) := by decide +kernel
theorem dX2_strike_21 : decode cX2_strike 21 = .ok (.aload_n 0, 1) := by decide +kernel
theorem dX2_strike_22 : decode cX2_strike 22 = .ok (.getfield 10, 3) := by decide +kernel
theorem dX2_strike_25 : decode cX2_strike 25 = .ok (.getfield 135, 3) := by decide +kernel
theorem dX2_strike_28 : decode cX2_strike 28 = .ok (.iload_n 1, 1) := by decide +kernel
theorem dX2_strike_29 : decode cX2_strike 29 = .ok (.iaload, 1) := by decide +kernel
theorem dX2_strike_30 : decode cX2_strike 30 = .ok (.istore_n 2, 1) := by decide +kernel
theorem dX2_strike_31 : decode cX2_strike 31 = .ok (.aload_n 0, 1) := by decide +kernel
theorem dX2_strike_32 : decode cX2_strike 32 = .ok (.getfield 10, 3) := by decide +kernel
theorem dX2_strike_35 : decode cX2_strike 35 = .ok (.iload_n 1, 1) := by decide +kernel
theorem dX2_strike_36 : decode cX2_strike 36 = .ok (.invokevirtual 138, 3) := by decide +kernel
theorem dX2_strike_39 : decode cX2_strike 39 = .ok (.iload_n 2, 1) := by decide +kernel
theorem dX2_strike_40 : decode cX2_strike 40 = .ok (.ireturn, 1) := by decide +kernel
set_option maxRecDepth 20000 in
theorem ggX2_written_X1_hasNote : GoodIn wsX2_written wsX1_hasNote := goodIn_r _ [7, 8, 16, 17, 18, 19, 20] (by decide +kernel) (by decide +kernel)
set_option maxRecDepth 20000 in
theorem gX2_written_X1_hasNote_n130 : GoodIn wsX2_written (wsX1_hasNote) := ggX2_written_X1_hasNote
set_option maxRecDepth 20000 in
theorem ggX2_written_X2_isWithin : GoodIn wsX2_written wsX2_isWithin := goodIn_r _ [12] (by decide +kernel) (by decide +kernel)
set_option maxRecDepth 20000 in
theorem gX2_written_X2_isWithin : GoodIn wsX2_written (va_wsS RX2 28 yX2_isWithin wsX2_isWithin) := goodIn_app (goodIn_of _ (by decide +kernel)) ggX2_written_X2_isWithin
theorem dX2_written_0 : decode cX2_written 0 = .ok (.aload_n 0, 1) := by decide +kernel
theorem dX2_written_1 : decode cX2_written 1 = .ok (.getfield 10, 3) := by decide +kernel
theorem dX2_written_4 : decode cX2_written 4 = .ok (.iload_n 1, 1) := by decide +kernel
theorem dX2_written_5 : decode cX2_written 5 = .ok (.invokevirtual 130, 3) := by decide +kernel
theorem dX2_written_8 : decode cX2_written 8 = .ok (.ifCond .eq 12, 3) := by decide +kernel
theorem dX2_written_11 : decode cX2_written 11 = .ok (.iload_n 2, 1) := by decide +kernel
theorem dX2_written_12 : decode cX2_written 12 = .ok (.iconst 0, 1) := by decide +kernel
theorem dX2_written_13 : decode cX2_written 13 = .ok (.iconst 2, 1) := by decide +kernel
theorem dX2_written_14 : decode cX2_written 14 = .ok (.invokestatic 28, 3) := by decide +kernel
theorem dX2_written_17 : decode cX2_written 17 = .ok (.ifCond .ne 13, 3) := by decide +kernel
theorem dX2_written_20 : decode cX2_written 20 = .ok (.new 54, 3) := by decide +kernel
theorem dX2_written_23 : decode cX2_written 23 = .ok (.dup, 1) := by decide +kernel
theorem dX2_written_24 : decode cX2_written 24 = .ok (.ldc 142, 2) := by decide +kernel
theorem dX2_written_26 : decode cX2_written 26 = .ok (.invokespecial 58, 3) := by decide +kernel
theorem dX2_written_29 : decode cX2_written 29 = .ok (.athrow, 1) := by decide +kernel
theorem dX2_written_30 : decode cX2_written 30 = .ok (.iload_n 2, 1) := by decide +kernel
theorem dX2_written_31 : decode cX2_written 31 = .ok (.lookupswitch 45 #[(0, 25), (1, 35)], 25) := by decide +kernel
theorem dX2_written_56 : decode cX2_written 56 = .ok (.aload_n 0, 1) := by decide +kernel
theorem dX2_written_57 : decode cX2_written 57 = .ok (.getfield 10, 3) := by decide +kernel
theorem dX2_written_60 : decode cX2_written 60 = .ok (.getfield 144, 3) := by decide +kernel
theorem dX2_written_63 : decode cX2_written 63 = .ok (.iload_n 1, 1) := by decide +kernel
theorem dX2_written_64 : decode cX2_written 64 = .ok (.iaload, 1) := by decide +kernel
theorem dX2_written_65 : decode cX2_written 65 = .ok (.ireturn, 1) := by decide +kernel
theorem dX2_written_66 : decode cX2_written 66 = .ok (.aload_n 0, 1) := by decide +kernel
theorem dX2_written_67 : decode cX2_written 67 = .ok (.getfield 10, 3) := by decide +kernel
theorem dX2_written_70 : decode cX2_written 70 = .ok (.getfield 135, 3) := by decide +kernel
theorem dX2_written_73 : decode cX2_written 73 = .ok (.iload_n 1, 1) := by decide +kernel
theorem dX2_written_74 : decode cX2_written 74 = .ok (.iaload, 1) := by decide +kernel
theorem dX2_written_75 : decode cX2_written 75 = .ok (.ireturn, 1) := by decide +kernel
theorem dX2_written_76 : decode cX2_written 76 = .ok (.aload_n 0, 1) := by decide +kernel
theorem dX2_written_77 : decode cX2_written 77 = .ok (.getfield 10, 3) := by decide +kernel
theorem dX2_written_80 : decode cX2_written 80 = .ok (.getfield 147, 3) := by decide +kernel
theorem dX2_written_83 : decode cX2_written 83 = .ok (.iload_n 1, 1) := by decide +kernel
theorem dX2_written_84 : decode cX2_written 84 = .ok (.iaload, 1) := by decide +kernel
theorem dX2_written_85 : decode cX2_written 85 = .ok (.ireturn, 1) := by decide +kernel
set_option maxRecDepth 20000 in
theorem ggX2_play_X2_isWithin : GoodIn wsX2_play wsX2_isWithin := goodIn_r _ [7] (by decide +kernel) (by decide +kernel)
set_option maxRecDepth 20000 in
theorem gX2_play_X2_isWithin : GoodIn wsX2_play (va_wsS RX2 28 yX2_isWithin wsX2_isWithin) := goodIn_app (goodIn_of _ (by decide +kernel)) ggX2_play_X2_isWithin
set_option maxRecDepth 20000 in
theorem ggX2_play_X0_letGoBy : GoodIn wsX2_play wsX0_letGoBy := goodIn_r _ [11, 12, 13, 14, 15, 9, 16, 17, 18, 19, 20, 21, 22, 23, 24, 25, 26, 27, 28, 29, 30, 31, 32, 33, 34, 35, 36, 37, 38, 39, 40, 41, 42, 43, 44, 45, 5, 6, 7, 46, 47, 48, 49, 50, 51, 52, 53, 54, 55, 56, 57, 58, 59, 60, 61, 62, 63, 64, 65, 66, 67, 68, 69, 70, 71, 72, 73, 74, 75, 76, 77, 78, 82, 83, 84, 85, 86, 87, 88, 89, 90, 91, 92, 93, 94, 95, 96, 97, 98, 99, 100, 101] (by decide +kernel) (by decide +kernel)
set_option maxRecDepth 20000 in
theorem gX2_play_X0_letGoBy_n155 : GoodIn wsX2_play (wsX0_letGoBy) := ggX2_play_X0_letGoBy
theorem dX2_play_0 : decode cX2_play 0 = .ok (.iload_n 1, 1) := by decide +kernel
theorem dX2_play_1 : decode cX2_play 1 = .ok (.iconst 1, 1) := by decide +kernel
theorem dX2_play_2 : decode cX2_play 2 = .ok (.sipush 200, 3) := by decide +kernel
theorem dX2_play_5 : decode cX2_play 5 = .ok (.invokestatic 28, 3) := by decide +kernel
theorem dX2_play_8 : decode cX2_play 8 = .ok (.ifCond .ne 13, 3) := by decide +kernel
theorem dX2_play_11 : decode cX2_play 11 = .ok (.new 32, 3) := by decide +kernel
theorem dX2_play_14 : decode cX2_play 14 = .ok (.dup, 1) := by decide +kernel
theorem dX2_play_15 : decode cX2_play 15 = .ok (.ldc 150, 2) := by decide +kernel
theorem dX2_play_17 : decode cX2_play 17 = .ok (.invokespecial 36, 3) := by decide +kernel
theorem dX2_play_20 : decode cX2_play 20 = .ok (.athrow, 1) := by decide +kernel
theorem dX2_play_21 : decode cX2_play 21 = .ok (.aload_n 0, 1) := by decide +kernel
theorem dX2_play_22 : decode cX2_play 22 = .ok (.getfield 21, 3) := by decide +kernel
theorem dX2_play_25 : decode cX2_play 25 = .ok (.getfield 152, 3) := by decide +kernel
theorem dX2_play_28 : decode cX2_play 28 = .ok (.istore_n 2, 1) := by decide +kernel
theorem dX2_play_29 : decode cX2_play 29 = .ok (.aload_n 0, 1) := by decide +kernel
theorem dX2_play_30 : decode cX2_play 30 = .ok (.getfield 21, 3) := by decide +kernel
theorem dX2_play_33 : decode cX2_play 33 = .ok (.iload_n 1, 1) := by decide +kernel
theorem dX2_play_34 : decode cX2_play 34 = .ok (.invokevirtual 155, 3) := by decide +kernel
theorem dX2_play_37 : decode cX2_play 37 = .ok (.aload_n 0, 1) := by decide +kernel
theorem dX2_play_38 : decode cX2_play 38 = .ok (.getfield 21, 3) := by decide +kernel
theorem dX2_play_41 : decode cX2_play 41 = .ok (.getfield 152, 3) := by decide +kernel
theorem dX2_play_44 : decode cX2_play 44 = .ok (.iload_n 2, 1) := by decide +kernel
theorem dX2_play_45 : decode cX2_play 45 = .ok (.isub, 1) := by decide +kernel
theorem dX2_play_46 : decode cX2_play 46 = .ok (.ireturn, 1) := by decide +kernel
set_option maxRecDepth 20000 in
theorem ggX2_count_X2_isWithin : GoodIn wsX2_count wsX2_isWithin := goodIn_r _ [8] (by decide +kernel) (by decide +kernel)
set_option maxRecDepth 20000 in
theorem gX2_count_X2_isWithin : GoodIn wsX2_count (va_wsS RX2 28 yX2_isWithin wsX2_isWithin) := goodIn_app (goodIn_of _ (by decide +kernel)) ggX2_count_X2_isWithin
set_option maxRecDepth 20000 in
theorem ggX2_count_X0_crackedGlasses : GoodIn wsX2_count wsX0_crackedGlasses := goodIn_r _ [12, 13, 14, 56, 57, 58, 59, 60, 61, 62, 63, 64, 65, 66, 67, 68, 69, 70] (by decide +kernel) (by decide +kernel)
set_option maxRecDepth 20000 in
theorem gX2_count_X0_crackedGlasses_n166 : GoodIn wsX2_count (wsX0_crackedGlasses) := ggX2_count_X0_crackedGlasses
set_option maxRecDepth 20000 in
theorem ggX2_count_X0_allAir : GoodIn wsX2_count wsX0_allAir := goodIn_r _ [17, 18, 56, 57, 58, 59, 60, 61, 62, 63, 64, 65, 66, 67, 68, 69, 70] (by decide +kernel) (by decide +kernel)
set_option maxRecDepth 20000 in
theorem gX2_count_X0_allAir_n176 : GoodIn wsX2_count (wsX0_allAir) := ggX2_count_X0_allAir
set_option maxRecDepth 20000 in
theorem ggX2_count_X0_pairsBeating : GoodIn wsX2_count wsX0_pairsBeating := goodIn_r _ [21, 13, 22, 23, 24, 10, 25, 26, 27, 28, 29, 30, 31, 32, 33, 34, 35, 36, 37, 38, 39, 40, 41, 42, 43, 44, 45, 46, 47, 48, 49, 50, 51, 7, 52, 6, 8, 56, 57, 58, 59, 60, 61, 62, 63, 64, 65, 66, 67, 68, 69, 70] (by decide +kernel) (by decide +kernel)
set_option maxRecDepth 20000 in
theorem gX2_count_X0_pairsBeating_n179 : GoodIn wsX2_count (wsX0_pairsBeating) := ggX2_count_X0_pairsBeating
theorem dX2_count_0 : decode cX2_count 0 = .ok (.iload_n 1, 1) := by decide +kernel
theorem dX2_count_1 : decode cX2_count 1 = .ok (.iconst 0, 1) := by decide +kernel
theorem dX2_count_2 : decode cX2_count 2 = .ok (.bipush 8, 2) := by decide +kernel
theorem dX2_count_4 : decode cX2_count 4 = .ok (.invokestatic 28, 3) := by decide +kernel
theorem dX2_count_7 : decode cX2_count 7 = .ok (.ifCond .ne 13, 3) := by decide +kernel
theorem dX2_count_10 : decode cX2_count 10 = .ok (.new 54, 3) := by decide +kernel
theorem dX2_count_13 : decode cX2_count 13 = .ok (.dup, 1) := by decide +kernel
theorem dX2_count_14 : decode cX2_count 14 = .ok (.ldc 158, 2) := by decide +kernel
theorem dX2_count_16 : decode cX2_count 16 = .ok (.invokespecial 58, 3) := by decide +kernel
theorem dX2_count_19 : decode cX2_count 19 = .ok (.athrow, 1) := by decide +kernel
theorem dX2_count_20 : decode cX2_count 20 = .ok (.iload_n 1, 1) := by decide +kernel
theorem dX2_count_21 : decode cX2_count 21 = .ok (.tableswitch 111 0 7 #[47, 55, 63, 71, 79, 87, 95, 103], 47) := by decide +kernel
theorem dX2_count_68 : decode cX2_count 68 = .ok (.aload_n 0, 1) := by decide +kernel
theorem dX2_count_69 : decode cX2_count 69 = .ok (.getfield 21, 3) := by decide +kernel
theorem dX2_count_72 : decode cX2_count 72 = .ok (.getfield 160, 3) := by decide +kernel
theorem dX2_count_75 : decode cX2_count 75 = .ok (.ireturn, 1) := by decide +kernel
theorem dX2_count_76 : decode cX2_count 76 = .ok (.aload_n 0, 1) := by decide +kernel
theorem dX2_count_77 : decode cX2_count 77 = .ok (.getfield 21, 3) := by decide +kernel
theorem dX2_count_80 : decode cX2_count 80 = .ok (.getfield 163, 3) := by decide +kernel
theorem dX2_count_83 : decode cX2_count 83 = .ok (.ireturn, 1) := by decide +kernel
theorem dX2_count_84 : decode cX2_count 84 = .ok (.aload_n 0, 1) := by decide +kernel
theorem dX2_count_85 : decode cX2_count 85 = .ok (.getfield 21, 3) := by decide +kernel
theorem dX2_count_88 : decode cX2_count 88 = .ok (.invokevirtual 166, 3) := by decide +kernel
theorem dX2_count_91 : decode cX2_count 91 = .ok (.ireturn, 1) := by decide +kernel
theorem dX2_count_92 : decode cX2_count 92 = .ok (.aload_n 0, 1) := by decide +kernel
theorem dX2_count_93 : decode cX2_count 93 = .ok (.getfield 10, 3) := by decide +kernel
theorem dX2_count_96 : decode cX2_count 96 = .ok (.getfield 127, 3) := by decide +kernel
theorem dX2_count_99 : decode cX2_count 99 = .ok (.ireturn, 1) := by decide +kernel
theorem dX2_count_100 : decode cX2_count 100 = .ok (.aload_n 0, 1) := by decide +kernel
theorem dX2_count_101 : decode cX2_count 101 = .ok (.getfield 21, 3) := by decide +kernel
theorem dX2_count_104 : decode cX2_count 104 = .ok (.getfield 152, 3) := by decide +kernel
theorem dX2_count_107 : decode cX2_count 107 = .ok (.ireturn, 1) := by decide +kernel
theorem dX2_count_108 : decode cX2_count 108 = .ok (.aload_n 0, 1) := by decide +kernel
theorem dX2_count_109 : decode cX2_count 109 = .ok (.getfield 21, 3) := by decide +kernel
theorem dX2_count_112 : decode cX2_count 112 = .ok (.getfield 170, 3) := by decide +kernel
theorem dX2_count_115 : decode cX2_count 115 = .ok (.ireturn, 1) := by decide +kernel
theorem dX2_count_116 : decode cX2_count 116 = .ok (.aload_n 0, 1) := by decide +kernel
theorem dX2_count_117 : decode cX2_count 117 = .ok (.getfield 21, 3) := by decide +kernel
theorem dX2_count_120 : decode cX2_count 120 = .ok (.getfield 173, 3) := by decide +kernel
theorem dX2_count_123 : decode cX2_count 123 = .ok (.ireturn, 1) := by decide +kernel
theorem dX2_count_124 : decode cX2_count 124 = .ok (.aload_n 0, 1) := by decide +kernel
theorem dX2_count_125 : decode cX2_count 125 = .ok (.getfield 21, 3) := by decide +kernel
theorem dX2_count_128 : decode cX2_count 128 = .ok (.invokevirtual 176, 3) := by decide +kernel
theorem dX2_count_131 : decode cX2_count 131 = .ok (.ireturn, 1) := by decide +kernel
theorem dX2_count_132 : decode cX2_count 132 = .ok (.aload_n 0, 1) := by decide +kernel
theorem dX2_count_133 : decode cX2_count 133 = .ok (.getfield 21, 3) := by decide +kernel
theorem dX2_count_136 : decode cX2_count 136 = .ok (.invokevirtual 179, 3) := by decide +kernel
theorem dX2_count_139 : decode cX2_count 139 = .ok (.ireturn, 1) := by decide +kernel
set_option maxRecDepth 20000 in
theorem ggX2_needs_X0_hasGlass : GoodIn wsX2_needs wsX0_hasGlass := goodIn_r _ [9, 10, 33, 34, 35, 36, 37, 38, 39, 40, 41, 42, 43, 44, 45, 46, 47] (by decide +kernel) (by decide +kernel)
set_option maxRecDepth 20000 in
theorem gX2_needs_X0_hasGlass_n50 : GoodIn wsX2_needs (wsX0_hasGlass) := ggX2_needs_X0_hasGlass
set_option maxRecDepth 20000 in
theorem ggX2_needs_X2_isWithin : GoodIn wsX2_needs wsX2_isWithin := goodIn_r _ [14] (by decide +kernel) (by decide +kernel)
set_option maxRecDepth 20000 in
theorem gX2_needs_X2_isWithin : GoodIn wsX2_needs (va_wsS RX2 28 yX2_isWithin wsX2_isWithin) := goodIn_app (goodIn_of _ (by decide +kernel)) ggX2_needs_X2_isWithin
set_option maxRecDepth 20000 in
theorem ggX2_needs_X0_fewestDropsFor : GoodIn wsX2_needs wsX0_fewestDropsFor := goodIn_r _ [17, 18, 19, 6, 8, 7, 9, 10, 20, 21, 22, 23, 24, 25, 26, 27, 28, 29, 12, 13, 14, 33, 34, 35, 36, 37, 38, 39, 40, 41, 42, 43, 44, 45, 46, 47] (by decide +kernel) (by decide +kernel)
set_option maxRecDepth 20000 in
theorem gX2_needs_X0_fewestDropsFor_n184 : GoodIn wsX2_needs (wsX0_fewestDropsFor) := ggX2_needs_X0_fewestDropsFor
theorem dX2_needs_0 : decode cX2_needs 0 = .ok (.aload_n 0, 1) := by decide +kernel
theorem dX2_needs_1 : decode cX2_needs 1 = .ok (.getfield 21, 3) := by decide +kernel
theorem dX2_needs_4 : decode cX2_needs 4 = .ok (.iload_n 1, 1) := by decide +kernel
theorem dX2_needs_5 : decode cX2_needs 5 = .ok (.invokevirtual 50, 3) := by decide +kernel
theorem dX2_needs_8 : decode cX2_needs 8 = .ok (.ifCond .ne 13, 3) := by decide +kernel
theorem dX2_needs_11 : decode cX2_needs 11 = .ok (.new 54, 3) := by decide +kernel
theorem dX2_needs_14 : decode cX2_needs 14 = .ok (.dup, 1) := by decide +kernel
theorem dX2_needs_15 : decode cX2_needs 15 = .ok (.ldc 56, 2) := by decide +kernel
theorem dX2_needs_17 : decode cX2_needs 17 = .ok (.invokespecial 58, 3) := by decide +kernel
theorem dX2_needs_20 : decode cX2_needs 20 = .ok (.athrow, 1) := by decide +kernel
theorem dX2_needs_21 : decode cX2_needs 21 = .ok (.iload_n 2, 1) := by decide +kernel
theorem dX2_needs_22 : decode cX2_needs 22 = .ok (.iconst 0, 1) := by decide +kernel
theorem dX2_needs_23 : decode cX2_needs 23 = .ok (.bipush 120, 2) := by decide +kernel
theorem dX2_needs_25 : decode cX2_needs 25 = .ok (.invokestatic 28, 3) := by decide +kernel
theorem dX2_needs_28 : decode cX2_needs 28 = .ok (.ifCond .ne 13, 3) := by decide +kernel
theorem dX2_needs_31 : decode cX2_needs 31 = .ok (.new 32, 3) := by decide +kernel
theorem dX2_needs_34 : decode cX2_needs 34 = .ok (.dup, 1) := by decide +kernel
theorem dX2_needs_35 : decode cX2_needs 35 = .ok (.ldc 182, 2) := by decide +kernel
theorem dX2_needs_37 : decode cX2_needs 37 = .ok (.invokespecial 36, 3) := by decide +kernel
theorem dX2_needs_40 : decode cX2_needs 40 = .ok (.athrow, 1) := by decide +kernel
theorem dX2_needs_41 : decode cX2_needs 41 = .ok (.aload_n 0, 1) := by decide +kernel
theorem dX2_needs_42 : decode cX2_needs 42 = .ok (.getfield 21, 3) := by decide +kernel
theorem dX2_needs_45 : decode cX2_needs 45 = .ok (.iload_n 1, 1) := by decide +kernel
theorem dX2_needs_46 : decode cX2_needs 46 = .ok (.iload_n 2, 1) := by decide +kernel
theorem dX2_needs_47 : decode cX2_needs 47 = .ok (.invokevirtual 184, 3) := by decide +kernel
theorem dX2_needs_50 : decode cX2_needs 50 = .ok (.ireturn, 1) := by decide +kernel
set_option maxRecDepth 20000 in
theorem ggX2_foresee_X2_isWithin : GoodIn wsX2_foresee wsX2_isWithin := goodIn_r _ [10] (by decide +kernel) (by decide +kernel)
set_option maxRecDepth 20000 in
theorem gX2_foresee_X2_isWithin : GoodIn wsX2_foresee (va_wsS RX2 28 yX2_isWithin wsX2_isWithin) := goodIn_app (goodIn_of _ (by decide +kernel)) ggX2_foresee_X2_isWithin
set_option maxRecDepth 20000 in
theorem ggX2_foresee_X0_takeOver : GoodIn wsX2_foresee wsX0_takeOver := goodIn_r _ [14, 15, 16, 17, 18, 19, 20, 21, 22, 23, 24, 25, 26, 27, 91, 92, 93, 94, 95, 96, 97, 98, 99, 100, 101, 102, 103, 104, 105] (by decide +kernel) (by decide +kernel)
set_option maxRecDepth 20000 in
theorem gX2_foresee_X0_takeOver_n192 : GoodIn wsX2_foresee (wsX0_takeOver) := ggX2_foresee_X0_takeOver
set_option maxRecDepth 20000 in
theorem ggX2_foresee_X0_letGoBy : GoodIn wsX2_foresee wsX0_letGoBy := goodIn_r _ [30, 24, 31, 32, 33, 12, 34, 22, 23, 35, 36, 37, 38, 39, 40, 41, 42, 15, 43, 44, 27, 45, 46, 47, 48, 49, 50, 51, 52, 53, 19, 16, 54, 55, 56, 57, 8, 9, 10, 58, 59, 60, 61, 17, 18, 62, 63, 64, 65, 66, 67, 68, 69, 70, 71, 72, 73, 74, 75, 76, 77, 78, 79, 80, 25, 26, 21, 20, 81, 82, 83, 84, 91, 92, 93, 94, 95, 96, 97, 98, 99, 100, 101, 102, 103, 104, 105, 106, 107, 108, 109, 110] (by decide +kernel) (by decide +kernel)
set_option maxRecDepth 20000 in
theorem gX2_foresee_X0_letGoBy_n155 : GoodIn wsX2_foresee (wsX0_letGoBy) := ggX2_foresee_X0_letGoBy
set_option maxRecDepth 20000 in
theorem ggX2_foresee_X0_crackedGlasses : GoodIn wsX2_foresee wsX0_crackedGlasses := goodIn_r _ [87, 15, 19, 91, 92, 93, 94, 95, 96, 97, 98, 99, 100, 101, 102, 103, 104, 105] (by decide +kernel) (by decide +kernel)
set_option maxRecDepth 20000 in
theorem gX2_foresee_X0_crackedGlasses_n166 : GoodIn wsX2_foresee (wsX0_crackedGlasses) := ggX2_foresee_X0_crackedGlasses
theorem dX2_foresee_0 : decode cX2_foresee 0 = .ok (.iload_n 1, 1) := by decide +kernel
theorem dX2_foresee_1 : decode cX2_foresee 1 = .ok (.iconst 1, 1) := by decide +kernel
theorem dX2_foresee_2 : decode cX2_foresee 2 = .ok (.sipush 150, 3) := by decide +kernel
theorem dX2_foresee_5 : decode cX2_foresee 5 = .ok (.invokestatic 28, 3) := by decide +kernel
theorem dX2_foresee_8 : decode cX2_foresee 8 = .ok (.ifCond .ne 13, 3) := by decide +kernel
theorem dX2_foresee_11 : decode cX2_foresee 11 = .ok (.new 32, 3) := by decide +kernel
theorem dX2_foresee_14 : decode cX2_foresee 14 = .ok (.dup, 1) := by decide +kernel
theorem dX2_foresee_15 : decode cX2_foresee 15 = .ok (.ldc 188, 2) := by decide +kernel
theorem dX2_foresee_17 : decode cX2_foresee 17 = .ok (.invokespecial 36, 3) := by decide +kernel
theorem dX2_foresee_20 : decode cX2_foresee 20 = .ok (.athrow, 1) := by decide +kernel
theorem dX2_foresee_21 : decode cX2_foresee 21 = .ok (.iload_n 2, 1) := by decide +kernel
theorem dX2_foresee_22 : decode cX2_foresee 22 = .ok (.iconst 0, 1) := by decide +kernel
theorem dX2_foresee_23 : decode cX2_foresee 23 = .ok (.iconst 3, 1) := by decide +kernel
theorem dX2_foresee_24 : decode cX2_foresee 24 = .ok (.invokestatic 28, 3) := by decide +kernel
theorem dX2_foresee_27 : decode cX2_foresee 27 = .ok (.ifCond .ne 13, 3) := by decide +kernel
theorem dX2_foresee_30 : decode cX2_foresee 30 = .ok (.new 54, 3) := by decide +kernel
theorem dX2_foresee_33 : decode cX2_foresee 33 = .ok (.dup, 1) := by decide +kernel
theorem dX2_foresee_34 : decode cX2_foresee 34 = .ok (.ldc 190, 2) := by decide +kernel
theorem dX2_foresee_36 : decode cX2_foresee 36 = .ok (.invokespecial 58, 3) := by decide +kernel
theorem dX2_foresee_39 : decode cX2_foresee 39 = .ok (.athrow, 1) := by decide +kernel
theorem dX2_foresee_40 : decode cX2_foresee 40 = .ok (.aload_n 0, 1) := by decide +kernel
theorem dX2_foresee_41 : decode cX2_foresee 41 = .ok (.getfield 25, 3) := by decide +kernel
theorem dX2_foresee_44 : decode cX2_foresee 44 = .ok (.aload_n 0, 1) := by decide +kernel
theorem dX2_foresee_45 : decode cX2_foresee 45 = .ok (.getfield 21, 3) := by decide +kernel
theorem dX2_foresee_48 : decode cX2_foresee 48 = .ok (.invokevirtual 192, 3) := by decide +kernel
theorem dX2_foresee_51 : decode cX2_foresee 51 = .ok (.aload_n 0, 1) := by decide +kernel
theorem dX2_foresee_52 : decode cX2_foresee 52 = .ok (.getfield 25, 3) := by decide +kernel
theorem dX2_foresee_55 : decode cX2_foresee 55 = .ok (.iload_n 1, 1) := by decide +kernel
theorem dX2_foresee_56 : decode cX2_foresee 56 = .ok (.invokevirtual 155, 3) := by decide +kernel
theorem dX2_foresee_59 : decode cX2_foresee 59 = .ok (.iload_n 2, 1) := by decide +kernel
theorem dX2_foresee_60 : decode cX2_foresee 60 = .ok (.tableswitch 76 0 2 #[28, 44, 60], 28) := by decide +kernel
theorem dX2_foresee_88 : decode cX2_foresee 88 = .ok (.aload_n 0, 1) := by decide +kernel
theorem dX2_foresee_89 : decode cX2_foresee 89 = .ok (.getfield 25, 3) := by decide +kernel
theorem dX2_foresee_92 : decode cX2_foresee 92 = .ok (.getfield 152, 3) := by decide +kernel
theorem dX2_foresee_95 : decode cX2_foresee 95 = .ok (.aload_n 0, 1) := by decide +kernel
theorem dX2_foresee_96 : decode cX2_foresee 96 = .ok (.getfield 21, 3) := by decide +kernel
theorem dX2_foresee_99 : decode cX2_foresee 99 = .ok (.getfield 152, 3) := by decide +kernel
theorem dX2_foresee_102 : decode cX2_foresee 102 = .ok (.isub, 1) := by decide +kernel
theorem dX2_foresee_103 : decode cX2_foresee 103 = .ok (.ireturn, 1) := by decide +kernel
theorem dX2_foresee_104 : decode cX2_foresee 104 = .ok (.aload_n 0, 1) := by decide +kernel
theorem dX2_foresee_105 : decode cX2_foresee 105 = .ok (.getfield 25, 3) := by decide +kernel
theorem dX2_foresee_108 : decode cX2_foresee 108 = .ok (.getfield 170, 3) := by decide +kernel
theorem dX2_foresee_111 : decode cX2_foresee 111 = .ok (.aload_n 0, 1) := by decide +kernel
theorem dX2_foresee_112 : decode cX2_foresee 112 = .ok (.getfield 21, 3) := by decide +kernel
theorem dX2_foresee_115 : decode cX2_foresee 115 = .ok (.getfield 170, 3) := by decide +kernel
theorem dX2_foresee_118 : decode cX2_foresee 118 = .ok (.isub, 1) := by decide +kernel
theorem dX2_foresee_119 : decode cX2_foresee 119 = .ok (.ireturn, 1) := by decide +kernel
theorem dX2_foresee_120 : decode cX2_foresee 120 = .ok (.aload_n 0, 1) := by decide +kernel
theorem dX2_foresee_121 : decode cX2_foresee 121 = .ok (.getfield 25, 3) := by decide +kernel
theorem dX2_foresee_124 : decode cX2_foresee 124 = .ok (.getfield 173, 3) := by decide +kernel
theorem dX2_foresee_127 : decode cX2_foresee 127 = .ok (.aload_n 0, 1) := by decide +kernel
theorem dX2_foresee_128 : decode cX2_foresee 128 = .ok (.getfield 21, 3) := by decide +kernel
theorem dX2_foresee_131 : decode cX2_foresee 131 = .ok (.getfield 173, 3) := by decide +kernel
theorem dX2_foresee_134 : decode cX2_foresee 134 = .ok (.isub, 1) := by decide +kernel
theorem dX2_foresee_135 : decode cX2_foresee 135 = .ok (.ireturn, 1) := by decide +kernel
theorem dX2_foresee_136 : decode cX2_foresee 136 = .ok (.aload_n 0, 1) := by decide +kernel
theorem dX2_foresee_137 : decode cX2_foresee 137 = .ok (.getfield 25, 3) := by decide +kernel
theorem dX2_foresee_140 : decode cX2_foresee 140 = .ok (.invokevirtual 166, 3) := by decide +kernel
theorem dX2_foresee_143 : decode cX2_foresee 143 = .ok (.ireturn, 1) := by decide +kernel
set_option maxRecDepth 20000 in
theorem ggX2_advise_X2_isWithin : GoodIn wsX2_advise wsX2_isWithin := goodIn_r _ [8] (by decide +kernel) (by decide +kernel)
set_option maxRecDepth 20000 in
theorem gX2_advise_X2_isWithin : GoodIn wsX2_advise (va_wsS RX2 28 yX2_isWithin wsX2_isWithin) := goodIn_app (goodIn_of _ (by decide +kernel)) ggX2_advise_X2_isWithin
set_option maxRecDepth 20000 in
theorem ggX2_advise_X0_takeOver : GoodIn wsX2_advise wsX0_takeOver := goodIn_r _ [12, 13, 14, 15, 16, 17, 18, 19, 20, 21, 22, 23, 24, 25, 105, 106, 107, 108, 109, 110, 111, 112, 113, 114, 115, 116, 117, 118, 119] (by decide +kernel) (by decide +kernel)
set_option maxRecDepth 20000 in
theorem gX2_advise_X0_takeOver_n192 : GoodIn wsX2_advise (wsX0_takeOver) := ggX2_advise_X0_takeOver
set_option maxRecDepth 20000 in
theorem ggX2_advise_X0_letGoBy : GoodIn wsX2_advise wsX0_letGoBy := goodIn_r _ [28, 22, 29, 30, 31, 10, 32, 20, 21, 33, 34, 35, 36, 37, 38, 39, 40, 13, 41, 42, 25, 43, 44, 45, 46, 47, 48, 49, 50, 51, 17, 14, 52, 53, 54, 55, 6, 7, 8, 56, 57, 58, 59, 15, 16, 60, 61, 62, 63, 64, 65, 66, 67, 68, 69, 70, 71, 72, 73, 74, 75, 76, 77, 78, 23, 24, 19, 18, 79, 80, 81, 82, 105, 106, 107, 108, 109, 110, 111, 112, 113, 114, 115, 116, 117, 118, 119, 120, 121, 122, 123, 124] (by decide +kernel) (by decide +kernel)
set_option maxRecDepth 20000 in
theorem gX2_advise_X0_letGoBy_n155 : GoodIn wsX2_advise (wsX0_letGoBy) := ggX2_advise_X0_letGoBy
set_option maxRecDepth 20000 in
theorem ggX2_advise_X0_canBeTuned : GoodIn wsX2_advise wsX0_canBeTuned := goodIn_r _ [85, 17, 63, 64, 65, 10, 66, 13, 86, 87, 88, 89, 15, 67, 68, 69, 70, 71, 72, 90, 91, 92, 93, 6, 7, 8, 105, 106, 107, 108, 109, 110, 111, 112, 113, 114, 115, 116, 117, 118, 119] (by decide +kernel) (by decide +kernel)
set_option maxRecDepth 20000 in
theorem gX2_advise_X0_canBeTuned_n198 : GoodIn wsX2_advise (wsX0_canBeTuned) := ggX2_advise_X0_canBeTuned
set_option maxRecDepth 20000 in
theorem ggX2_advise_X2_inTuneIfTuned : GoodIn wsX2_advise wsX2_inTuneIfTuned := goodIn_r _ [97, 3, 4, 9, 10, 11, 12, 13, 14, 15, 16, 17, 18, 19, 20, 21, 22, 23, 24, 25, 98, 99, 100, 101, 83, 84, 85, 63, 64, 65, 66, 86, 87, 88, 89, 67, 68, 69, 70, 71, 72, 90, 91, 92, 93, 6, 7, 8, 26, 27, 28, 29, 30, 31, 32, 33, 34, 35, 36, 37, 38, 39, 40, 41, 42, 43, 44, 45, 46, 47, 48, 49, 50, 51, 52, 53, 54, 55, 56, 57, 58, 59, 60, 61, 62, 73, 74, 75, 76, 77, 78, 79, 80, 81, 82, 102, 103, 104, 105, 106, 107, 108, 109, 110, 111, 112, 113, 114, 115, 116, 117, 118, 119, 120, 121, 122, 123, 124] (by decide +kernel) (by decide +kernel)
set_option maxRecDepth 20000 in
theorem gX2_advise_X2_inTuneIfTuned : GoodIn wsX2_advise (wsV RX2 202 RX2 yX2_inTuneIfTuned wsX2_inTuneIfTuned) := goodIn_app (goodIn_of _ (by decide +kernel)) ggX2_advise_X2_inTuneIfTuned
theorem dX2_advise_0 : decode cX2_advise 0 = .ok (.iload_n 1, 1) := by decide +kernel
theorem dX2_advise_1 : decode cX2_advise 1 = .ok (.iconst 0, 1) := by decide +kernel
theorem dX2_advise_2 : decode cX2_advise 2 = .ok (.bipush 120, 2) := by decide +kernel
theorem dX2_advise_4 : decode cX2_advise 4 = .ok (.invokestatic 28, 3) := by decide +kernel
theorem dX2_advise_7 : decode cX2_advise 7 = .ok (.ifCond .ne 13, 3) := by decide +kernel
theorem dX2_advise_10 : decode cX2_advise 10 = .ok (.new 32, 3) := by decide +kernel
theorem dX2_advise_13 : decode cX2_advise 13 = .ok (.dup, 1) := by decide +kernel
theorem dX2_advise_14 : decode cX2_advise 14 = .ok (.ldc 182, 2) := by decide +kernel
theorem dX2_advise_16 : decode cX2_advise 16 = .ok (.invokespecial 36, 3) := by decide +kernel
theorem dX2_advise_19 : decode cX2_advise 19 = .ok (.athrow, 1) := by decide +kernel
theorem dX2_advise_20 : decode cX2_advise 20 = .ok (.iload_n 2, 1) := by decide +kernel
theorem dX2_advise_21 : decode cX2_advise 21 = .ok (.iconst 1, 1) := by decide +kernel
theorem dX2_advise_22 : decode cX2_advise 22 = .ok (.bipush 80, 2) := by decide +kernel
theorem dX2_advise_24 : decode cX2_advise 24 = .ok (.invokestatic 28, 3) := by decide +kernel
theorem dX2_advise_27 : decode cX2_advise 27 = .ok (.ifCond .ne 13, 3) := by decide +kernel
theorem dX2_advise_30 : decode cX2_advise 30 = .ok (.new 32, 3) := by decide +kernel
theorem dX2_advise_33 : decode cX2_advise 33 = .ok (.dup, 1) := by decide +kernel
theorem dX2_advise_34 : decode cX2_advise 34 = .ok (.ldc 196, 2) := by decide +kernel
theorem dX2_advise_36 : decode cX2_advise 36 = .ok (.invokespecial 36, 3) := by decide +kernel
theorem dX2_advise_39 : decode cX2_advise 39 = .ok (.athrow, 1) := by decide +kernel
theorem dX2_advise_40 : decode cX2_advise 40 = .ok (.aload_n 0, 1) := by decide +kernel
theorem dX2_advise_41 : decode cX2_advise 41 = .ok (.getfield 25, 3) := by decide +kernel
theorem dX2_advise_44 : decode cX2_advise 44 = .ok (.aload_n 0, 1) := by decide +kernel
theorem dX2_advise_45 : decode cX2_advise 45 = .ok (.getfield 21, 3) := by decide +kernel
theorem dX2_advise_48 : decode cX2_advise 48 = .ok (.invokevirtual 192, 3) := by decide +kernel
theorem dX2_advise_51 : decode cX2_advise 51 = .ok (.aload_n 0, 1) := by decide +kernel
theorem dX2_advise_52 : decode cX2_advise 52 = .ok (.getfield 25, 3) := by decide +kernel
theorem dX2_advise_55 : decode cX2_advise 55 = .ok (.iload_n 2, 1) := by decide +kernel
theorem dX2_advise_56 : decode cX2_advise 56 = .ok (.invokevirtual 155, 3) := by decide +kernel
theorem dX2_advise_59 : decode cX2_advise 59 = .ok (.aload_n 0, 1) := by decide +kernel
theorem dX2_advise_60 : decode cX2_advise 60 = .ok (.getfield 25, 3) := by decide +kernel
theorem dX2_advise_63 : decode cX2_advise 63 = .ok (.getfield 170, 3) := by decide +kernel
theorem dX2_advise_66 : decode cX2_advise 66 = .ok (.istore_n 3, 1) := by decide +kernel
theorem dX2_advise_67 : decode cX2_advise 67 = .ok (.iconst (-1), 1) := by decide +kernel
theorem dX2_advise_68 : decode cX2_advise 68 = .ok (.istore 4, 2) := by decide +kernel
theorem dX2_advise_70 : decode cX2_advise 70 = .ok (.iconst 0, 1) := by decide +kernel
theorem dX2_advise_71 : decode cX2_advise 71 = .ok (.istore 5, 2) := by decide +kernel
theorem dX2_advise_73 : decode cX2_advise 73 = .ok (.iload 5, 2) := by decide +kernel
theorem dX2_advise_75 : decode cX2_advise 75 = .ok (.aload_n 0, 1) := by decide +kernel
theorem dX2_advise_76 : decode cX2_advise 76 = .ok (.getfield 21, 3) := by decide +kernel
theorem dX2_advise_79 : decode cX2_advise 79 = .ok (.getfield 163, 3) := by decide +kernel
theorem dX2_advise_82 : decode cX2_advise 82 = .ok (.if_icmp .ge 45, 3) := by decide +kernel
theorem dX2_advise_85 : decode cX2_advise 85 = .ok (.aload_n 0, 1) := by decide +kernel
theorem dX2_advise_86 : decode cX2_advise 86 = .ok (.getfield 21, 3) := by decide +kernel
theorem dX2_advise_89 : decode cX2_advise 89 = .ok (.iload 5, 2) := by decide +kernel
theorem dX2_advise_91 : decode cX2_advise 91 = .ok (.iload_n 1, 1) := by decide +kernel
theorem dX2_advise_92 : decode cX2_advise 92 = .ok (.invokevirtual 198, 3) := by decide +kernel
theorem dX2_advise_95 : decode cX2_advise 95 = .ok (.ifCond .eq 26, 3) := by decide +kernel
theorem dX2_advise_98 : decode cX2_advise 98 = .ok (.aload_n 0, 1) := by decide +kernel
theorem dX2_advise_99 : decode cX2_advise 99 = .ok (.iload 5, 2) := by decide +kernel
theorem dX2_advise_101 : decode cX2_advise 101 = .ok (.iload_n 1, 1) := by decide +kernel
theorem dX2_advise_102 : decode cX2_advise 102 = .ok (.iload_n 2, 1) := by decide +kernel
theorem dX2_advise_103 : decode cX2_advise 103 = .ok (.invokevirtual 202, 3) := by decide +kernel
theorem dX2_advise_106 : decode cX2_advise 106 = .ok (.istore 6, 2) := by decide +kernel
theorem dX2_advise_108 : decode cX2_advise 108 = .ok (.iload 6, 2) := by decide +kernel
theorem dX2_advise_110 : decode cX2_advise 110 = .ok (.iload_n 3, 1) := by decide +kernel
theorem dX2_advise_111 : decode cX2_advise 111 = .ok (.if_icmp .le 10, 3) := by decide +kernel
theorem dX2_advise_114 : decode cX2_advise 114 = .ok (.iload 6, 2) := by decide +kernel
theorem dX2_advise_116 : decode cX2_advise 116 = .ok (.istore_n 3, 1) := by decide +kernel
theorem dX2_advise_117 : decode cX2_advise 117 = .ok (.iload 5, 2) := by decide +kernel
theorem dX2_advise_119 : decode cX2_advise 119 = .ok (.istore 4, 2) := by decide +kernel
theorem dX2_advise_121 : decode cX2_advise 121 = .ok (.iinc 5 1, 3) := by decide +kernel
theorem dX2_advise_124 : decode cX2_advise 124 = .ok (.goto (-51), 3) := by decide +kernel
theorem dX2_advise_127 : decode cX2_advise 127 = .ok (.iload 4, 2) := by decide +kernel
theorem dX2_advise_129 : decode cX2_advise 129 = .ok (.ireturn, 1) := by decide +kernel
set_option maxRecDepth 20000 in
theorem ggX2_wants_X2_isWithin : GoodIn wsX2_wants wsX2_isWithin := goodIn_r _ [8] (by decide +kernel) (by decide +kernel)
set_option maxRecDepth 20000 in
theorem gX2_wants_X2_isWithin : GoodIn wsX2_wants (va_wsS RX2 28 yX2_isWithin wsX2_isWithin) := goodIn_app (goodIn_of _ (by decide +kernel)) ggX2_wants_X2_isWithin
set_option maxRecDepth 20000 in
theorem ggX2_wants_X2_missedIfPumped : GoodIn wsX2_wants wsX2_missedIfPumped := goodIn_r _ [12, 13, 14, 15, 16, 17, 18, 19, 20, 21, 22, 23, 24, 25, 26, 27, 28, 29, 30, 31, 32, 33, 34, 6, 7, 8, 35, 36, 37, 38, 39, 40, 41, 42, 43, 44, 45, 46, 47, 48, 49, 50, 51, 52, 53, 54, 55, 56, 57, 58, 59, 60, 61, 62, 63, 64, 65, 66, 67, 68, 69, 70, 71, 72, 73, 74, 75, 76, 77, 78, 79, 80, 81, 82, 83, 84, 85, 86, 87, 88, 89, 90, 91, 92, 93, 94, 95, 96, 97, 98, 99, 100, 101, 102, 103, 104, 105, 106, 107, 108, 109, 110, 111, 112, 113, 114] (by decide +kernel) (by decide +kernel)
set_option maxRecDepth 20000 in
theorem gX2_wants_X2_missedIfPumped : GoodIn wsX2_wants (wsV RX2 205 RX2 yX2_missedIfPumped wsX2_missedIfPumped) := goodIn_app (goodIn_of _ (by decide +kernel)) ggX2_wants_X2_missedIfPumped
theorem dX2_wants_0 : decode cX2_wants 0 = .ok (.iload_n 1, 1) := by decide +kernel
theorem dX2_wants_1 : decode cX2_wants 1 = .ok (.iconst 0, 1) := by decide +kernel
theorem dX2_wants_2 : decode cX2_wants 2 = .ok (.iconst 3, 1) := by decide +kernel
theorem dX2_wants_3 : decode cX2_wants 3 = .ok (.invokestatic 28, 3) := by decide +kernel
theorem dX2_wants_6 : decode cX2_wants 6 = .ok (.ifCond .ne 13, 3) := by decide +kernel
theorem dX2_wants_9 : decode cX2_wants 9 = .ok (.new 54, 3) := by decide +kernel
theorem dX2_wants_12 : decode cX2_wants 12 = .ok (.dup, 1) := by decide +kernel
theorem dX2_wants_13 : decode cX2_wants 13 = .ok (.ldc 80, 2) := by decide +kernel
theorem dX2_wants_15 : decode cX2_wants 15 = .ok (.invokespecial 58, 3) := by decide +kernel
theorem dX2_wants_18 : decode cX2_wants 18 = .ok (.athrow, 1) := by decide +kernel
theorem dX2_wants_19 : decode cX2_wants 19 = .ok (.iload_n 2, 1) := by decide +kernel
theorem dX2_wants_20 : decode cX2_wants 20 = .ok (.iconst 1, 1) := by decide +kernel
theorem dX2_wants_21 : decode cX2_wants 21 = .ok (.bipush 80, 2) := by decide +kernel
theorem dX2_wants_23 : decode cX2_wants 23 = .ok (.invokestatic 28, 3) := by decide +kernel
theorem dX2_wants_26 : decode cX2_wants 26 = .ok (.ifCond .ne 13, 3) := by decide +kernel
theorem dX2_wants_29 : decode cX2_wants 29 = .ok (.new 32, 3) := by decide +kernel
theorem dX2_wants_32 : decode cX2_wants 32 = .ok (.dup, 1) := by decide +kernel
theorem dX2_wants_33 : decode cX2_wants 33 = .ok (.ldc 196, 2) := by decide +kernel
theorem dX2_wants_35 : decode cX2_wants 35 = .ok (.invokespecial 36, 3) := by decide +kernel
theorem dX2_wants_38 : decode cX2_wants 38 = .ok (.athrow, 1) := by decide +kernel
theorem dX2_wants_39 : decode cX2_wants 39 = .ok (.aload_n 0, 1) := by decide +kernel
theorem dX2_wants_40 : decode cX2_wants 40 = .ok (.iload_n 1, 1) := by decide +kernel
theorem dX2_wants_41 : decode cX2_wants 41 = .ok (.bipush 9, 2) := by decide +kernel
theorem dX2_wants_43 : decode cX2_wants 43 = .ok (.iload_n 2, 1) := by decide +kernel
theorem dX2_wants_44 : decode cX2_wants 44 = .ok (.invokevirtual 205, 3) := by decide +kernel
theorem dX2_wants_47 : decode cX2_wants 47 = .ok (.istore_n 3, 1) := by decide +kernel
theorem dX2_wants_48 : decode cX2_wants 48 = .ok (.iconst 0, 1) := by decide +kernel
theorem dX2_wants_49 : decode cX2_wants 49 = .ok (.istore 4, 2) := by decide +kernel
theorem dX2_wants_51 : decode cX2_wants 51 = .ok (.iload 4, 2) := by decide +kernel
theorem dX2_wants_53 : decode cX2_wants 53 = .ok (.bipush 9, 2) := by decide +kernel
theorem dX2_wants_55 : decode cX2_wants 55 = .ok (.if_icmp .ge 24, 3) := by decide +kernel
theorem dX2_wants_58 : decode cX2_wants 58 = .ok (.aload_n 0, 1) := by decide +kernel
theorem dX2_wants_59 : decode cX2_wants 59 = .ok (.iload_n 1, 1) := by decide +kernel
theorem dX2_wants_60 : decode cX2_wants 60 = .ok (.iload 4, 2) := by decide +kernel
theorem dX2_wants_62 : decode cX2_wants 62 = .ok (.iload_n 2, 1) := by decide +kernel
theorem dX2_wants_63 : decode cX2_wants 63 = .ok (.invokevirtual 205, 3) := by decide +kernel
theorem dX2_wants_66 : decode cX2_wants 66 = .ok (.iload_n 3, 1) := by decide +kernel
theorem dX2_wants_67 : decode cX2_wants 67 = .ok (.if_icmp .gt 6, 3) := by decide +kernel
theorem dX2_wants_70 : decode cX2_wants 70 = .ok (.iload 4, 2) := by decide +kernel
theorem dX2_wants_72 : decode cX2_wants 72 = .ok (.ireturn, 1) := by decide +kernel
theorem dX2_wants_73 : decode cX2_wants 73 = .ok (.iinc 4 1, 3) := by decide +kernel
theorem dX2_wants_76 : decode cX2_wants 76 = .ok (.goto (-25), 3) := by decide +kernel
theorem dX2_wants_79 : decode cX2_wants 79 = .ok (.bipush 9, 2) := by decide +kernel
theorem dX2_wants_81 : decode cX2_wants 81 = .ok (.ireturn, 1) := by decide +kernel
theorem dX2_mean_0 : decode cX2_mean 0 = .ok (.aload_n 0, 1) := by decide +kernel
theorem dX2_mean_1 : decode cX2_mean 1 = .ok (.getfield 21, 3) := by decide +kernel
theorem dX2_mean_4 : decode cX2_mean 4 = .ok (.getfield 152, 3) := by decide +kernel
theorem dX2_mean_7 : decode cX2_mean 7 = .ok (.aload_n 0, 1) := by decide +kernel
theorem dX2_mean_8 : decode cX2_mean 8 = .ok (.getfield 21, 3) := by decide +kernel
theorem dX2_mean_11 : decode cX2_mean 11 = .ok (.getfield 173, 3) := by decide +kernel
theorem dX2_mean_14 : decode cX2_mean 14 = .ok (.iadd, 1) := by decide +kernel
theorem dX2_mean_15 : decode cX2_mean 15 = .ok (.istore_n 1, 1) := by decide +kernel
theorem dX2_mean_16 : decode cX2_mean 16 = .ok (.iload_n 1, 1) := by decide +kernel
theorem dX2_mean_17 : decode cX2_mean 17 = .ok (.ifCond .ne 5, 3) := by decide +kernel
theorem dX2_mean_20 : decode cX2_mean 20 = .ok (.dconst 0, 1) := by decide +kernel
theorem dX2_mean_21 : decode cX2_mean 21 = .ok (.dreturn, 1) := by decide +kernel
theorem dX2_mean_22 : decode cX2_mean 22 = .ok (.aload_n 0, 1) := by decide +kernel
theorem dX2_mean_23 : decode cX2_mean 23 = .ok (.getfield 21, 3) := by decide +kernel
theorem dX2_mean_26 : decode cX2_mean 26 = .ok (.getfield 170, 3) := by decide +kernel
theorem dX2_mean_29 : decode cX2_mean 29 = .ok (.i2d, 1) := by decide +kernel
theorem dX2_mean_30 : decode cX2_mean 30 = .ok (.iload_n 1, 1) := by decide +kernel
theorem dX2_mean_31 : decode cX2_mean 31 = .ok (.i2d, 1) := by decide +kernel
theorem dX2_mean_32 : decode cX2_mean 32 = .ok (.ddiv, 1) := by decide +kernel
theorem dX2_mean_33 : decode cX2_mean 33 = .ok (.dreturn, 1) := by decide +kernel
set_option maxRecDepth 20000 in
theorem ggX2_digest_X2_count : GoodIn wsX2_digest wsX2_count := goodIn_ca (goodIn_r _ [8, 9, 10, 3, 2, 11, 12, 7, 13, 14, 15, 16, 17, 18, 19, 20, 21, 22, 23, 24, 25, 26, 27, 28, 29, 30, 31, 32, 33, 34, 35, 36, 37, 38, 39, 40, 41, 42, 43, 44, 45, 46, 47, 48, 49, 50, 51, 52, 53, 54, 55, 56, 57, 83, 84, 85, 91, 92, 93, 94, 95, 96, 97, 98, 99, 100, 101, 102, 103, 104, 105, 86, 87, 88, 89, 90] (by decide +kernel) (by decide +kernel)) (goodIn_sub (fun _ h => List.mem_cons_of_mem _ (List.mem_append_right _ h)) (by decide +kernel))
set_option maxRecDepth 20000 in
theorem gX2_digest_X2_count : GoodIn wsX2_digest (wsV RX2 210 RX2 yX2_count wsX2_count) := goodIn_app (goodIn_of _ (by decide +kernel)) ggX2_digest_X2_count
set_option maxRecDepth 20000 in
theorem ggX2_digest_X2_digested : GoodIn wsX2_digest wsX2_digested := goodIn_r _ [60, 61] (by decide +kernel) (by decide +kernel)
set_option maxRecDepth 20000 in
theorem gX2_digest_X2_digested : GoodIn wsX2_digest (va_wsS RX2 213 yX2_digested wsX2_digested) := goodIn_app (goodIn_of _ (by decide +kernel)) ggX2_digest_X2_digested
set_option maxRecDepth 20000 in
theorem ggX2_digest_X2_glass : GoodIn wsX2_digest wsX2_glass := goodIn_ca (goodIn_r _ [65, 9, 10, 3, 37, 15, 38, 39, 18, 11, 12, 7, 13, 41, 42, 43, 44, 45, 46, 47, 48, 49, 36, 50, 51, 52, 53, 54, 55, 28, 29, 30, 31, 32, 33, 34, 35, 40, 56, 57, 83, 84, 85, 91, 92, 93, 94, 95, 96, 97, 98, 99, 100, 101, 102, 103, 104, 105] (by decide +kernel) (by decide +kernel)) (goodIn_sub (fun _ h => List.mem_cons_of_mem _ (List.mem_append_right _ h)) (by decide +kernel))
set_option maxRecDepth 20000 in
theorem gX2_digest_X2_glass : GoodIn wsX2_digest (wsV RX2 217 RX2 yX2_glass wsX2_glass) := goodIn_app (goodIn_of _ (by decide +kernel)) ggX2_digest_X2_glass
set_option maxRecDepth 20000 in
theorem ggX2_digest_X2_row : GoodIn wsX2_digest wsX2_row := goodIn_ca (goodIn_r _ [69, 9, 10, 3, 11, 12, 7, 13, 70, 15, 71, 72, 18, 73, 83, 84, 85, 91, 92, 93, 94, 95, 96, 97, 98, 99, 100, 101, 102, 103, 104, 105] (by decide +kernel) (by decide +kernel)) (goodIn_sub (fun _ h => List.mem_cons_of_mem _ (List.mem_append_right _ h)) (by decide +kernel))
set_option maxRecDepth 20000 in
theorem gX2_digest_X2_row : GoodIn wsX2_digest (wsV RX2 220 RX2 yX2_row wsX2_row) := goodIn_app (goodIn_of _ (by decide +kernel)) ggX2_digest_X2_row
set_option maxRecDepth 20000 in
theorem ggX2_digest_X2_written : GoodIn wsX2_digest wsX2_written := goodIn_ca (goodIn_r _ [77, 9, 10, 2, 78, 79, 80, 81, 82, 11, 12, 7, 13, 83, 84, 85, 86, 87, 88, 89, 90] (by decide +kernel) (by decide +kernel)) (goodIn_sub (fun _ h => List.mem_cons_of_mem _ (List.mem_append_right _ h)) (by decide +kernel))
set_option maxRecDepth 20000 in
theorem gX2_digest_X2_written : GoodIn wsX2_digest (wsV RX2 223 RX2 yX2_written wsX2_written) := goodIn_app (goodIn_of _ (by decide +kernel)) ggX2_digest_X2_written
theorem dX2_digest_0 : decode cX2_digest 0 = .ok (.ldc2_w 208, 3) := by decide +kernel
theorem dX2_digest_3 : decode cX2_digest 3 = .ok (.lstore_n 1, 1) := by decide +kernel
theorem dX2_digest_4 : decode cX2_digest 4 = .ok (.iconst 0, 1) := by decide +kernel
theorem dX2_digest_5 : decode cX2_digest 5 = .ok (.istore_n 3, 1) := by decide +kernel
theorem dX2_digest_6 : decode cX2_digest 6 = .ok (.iload_n 3, 1) := by decide +kernel
theorem dX2_digest_7 : decode cX2_digest 7 = .ok (.bipush 9, 2) := by decide +kernel
theorem dX2_digest_9 : decode cX2_digest 9 = .ok (.if_icmp .ge 19, 3) := by decide +kernel
theorem dX2_digest_12 : decode cX2_digest 12 = .ok (.lload_n 1, 1) := by decide +kernel
theorem dX2_digest_13 : decode cX2_digest 13 = .ok (.aload_n 0, 1) := by decide +kernel
theorem dX2_digest_14 : decode cX2_digest 14 = .ok (.iload_n 3, 1) := by decide +kernel
theorem dX2_digest_15 : decode cX2_digest 15 = .ok (.invokevirtual 210, 3) := by decide +kernel
theorem dX2_digest_18 : decode cX2_digest 18 = .ok (.invokestatic 213, 3) := by decide +kernel
theorem dX2_digest_21 : decode cX2_digest 21 = .ok (.lstore_n 1, 1) := by decide +kernel
theorem dX2_digest_22 : decode cX2_digest 22 = .ok (.iinc 3 1, 3) := by decide +kernel
theorem dX2_digest_25 : decode cX2_digest 25 = .ok (.goto (-19), 3) := by decide +kernel
theorem dX2_digest_28 : decode cX2_digest 28 = .ok (.lload_n 1, 1) := by decide +kernel
theorem dX2_digest_29 : decode cX2_digest 29 = .ok (.aload_n 0, 1) := by decide +kernel
theorem dX2_digest_30 : decode cX2_digest 30 = .ok (.getfield 10, 3) := by decide +kernel
theorem dX2_digest_33 : decode cX2_digest 33 = .ok (.getfield 114, 3) := by decide +kernel
theorem dX2_digest_36 : decode cX2_digest 36 = .ok (.invokestatic 213, 3) := by decide +kernel
theorem dX2_digest_39 : decode cX2_digest 39 = .ok (.lstore_n 1, 1) := by decide +kernel
theorem dX2_digest_40 : decode cX2_digest 40 = .ok (.iconst 0, 1) := by decide +kernel
theorem dX2_digest_41 : decode cX2_digest 41 = .ok (.istore_n 3, 1) := by decide +kernel
theorem dX2_digest_42 : decode cX2_digest 42 = .ok (.iload_n 3, 1) := by decide +kernel
theorem dX2_digest_43 : decode cX2_digest 43 = .ok (.aload_n 0, 1) := by decide +kernel
theorem dX2_digest_44 : decode cX2_digest 44 = .ok (.getfield 21, 3) := by decide +kernel
theorem dX2_digest_47 : decode cX2_digest 47 = .ok (.getfield 163, 3) := by decide +kernel
theorem dX2_digest_50 : decode cX2_digest 50 = .ok (.if_icmp .ge 37, 3) := by decide +kernel
theorem dX2_digest_53 : decode cX2_digest 53 = .ok (.iconst 0, 1) := by decide +kernel
theorem dX2_digest_54 : decode cX2_digest 54 = .ok (.istore 4, 2) := by decide +kernel
theorem dX2_digest_56 : decode cX2_digest 56 = .ok (.iload 4, 2) := by decide +kernel
theorem dX2_digest_58 : decode cX2_digest 58 = .ok (.bipush 8, 2) := by decide +kernel
theorem dX2_digest_60 : decode cX2_digest 60 = .ok (.if_icmp .ge 21, 3) := by decide +kernel
theorem dX2_digest_63 : decode cX2_digest 63 = .ok (.lload_n 1, 1) := by decide +kernel
theorem dX2_digest_64 : decode cX2_digest 64 = .ok (.aload_n 0, 1) := by decide +kernel
theorem dX2_digest_65 : decode cX2_digest 65 = .ok (.iload_n 3, 1) := by decide +kernel
theorem dX2_digest_66 : decode cX2_digest 66 = .ok (.iload 4, 2) := by decide +kernel
theorem dX2_digest_68 : decode cX2_digest 68 = .ok (.invokevirtual 217, 3) := by decide +kernel
theorem dX2_digest_71 : decode cX2_digest 71 = .ok (.invokestatic 213, 3) := by decide +kernel
theorem dX2_digest_74 : decode cX2_digest 74 = .ok (.lstore_n 1, 1) := by decide +kernel
theorem dX2_digest_75 : decode cX2_digest 75 = .ok (.iinc 4 1, 3) := by decide +kernel
theorem dX2_digest_78 : decode cX2_digest 78 = .ok (.goto (-22), 3) := by decide +kernel
theorem dX2_digest_81 : decode cX2_digest 81 = .ok (.iinc 3 1, 3) := by decide +kernel
theorem dX2_digest_84 : decode cX2_digest 84 = .ok (.goto (-42), 3) := by decide +kernel
theorem dX2_digest_87 : decode cX2_digest 87 = .ok (.iconst 0, 1) := by decide +kernel
theorem dX2_digest_88 : decode cX2_digest 88 = .ok (.istore_n 3, 1) := by decide +kernel
theorem dX2_digest_89 : decode cX2_digest 89 = .ok (.iload_n 3, 1) := by decide +kernel
theorem dX2_digest_90 : decode cX2_digest 90 = .ok (.iconst 4, 1) := by decide +kernel
theorem dX2_digest_91 : decode cX2_digest 91 = .ok (.if_icmp .ge 36, 3) := by decide +kernel
theorem dX2_digest_94 : decode cX2_digest 94 = .ok (.iconst 0, 1) := by decide +kernel
theorem dX2_digest_95 : decode cX2_digest 95 = .ok (.istore 4, 2) := by decide +kernel
theorem dX2_digest_97 : decode cX2_digest 97 = .ok (.iload 4, 2) := by decide +kernel
theorem dX2_digest_99 : decode cX2_digest 99 = .ok (.iconst 3, 1) := by decide +kernel
theorem dX2_digest_100 : decode cX2_digest 100 = .ok (.if_icmp .ge 21, 3) := by decide +kernel
theorem dX2_digest_103 : decode cX2_digest 103 = .ok (.lload_n 1, 1) := by decide +kernel
theorem dX2_digest_104 : decode cX2_digest 104 = .ok (.aload_n 0, 1) := by decide +kernel
theorem dX2_digest_105 : decode cX2_digest 105 = .ok (.iload_n 3, 1) := by decide +kernel
theorem dX2_digest_106 : decode cX2_digest 106 = .ok (.iload 4, 2) := by decide +kernel
theorem dX2_digest_108 : decode cX2_digest 108 = .ok (.invokevirtual 220, 3) := by decide +kernel
theorem dX2_digest_111 : decode cX2_digest 111 = .ok (.invokestatic 213, 3) := by decide +kernel
theorem dX2_digest_114 : decode cX2_digest 114 = .ok (.lstore_n 1, 1) := by decide +kernel
theorem dX2_digest_115 : decode cX2_digest 115 = .ok (.iinc 4 1, 3) := by decide +kernel
theorem dX2_digest_118 : decode cX2_digest 118 = .ok (.goto (-21), 3) := by decide +kernel
theorem dX2_digest_121 : decode cX2_digest 121 = .ok (.iinc 3 1, 3) := by decide +kernel
theorem dX2_digest_124 : decode cX2_digest 124 = .ok (.goto (-35), 3) := by decide +kernel
theorem dX2_digest_127 : decode cX2_digest 127 = .ok (.iconst 0, 1) := by decide +kernel
theorem dX2_digest_128 : decode cX2_digest 128 = .ok (.istore_n 3, 1) := by decide +kernel
theorem dX2_digest_129 : decode cX2_digest 129 = .ok (.iload_n 3, 1) := by decide +kernel
theorem dX2_digest_130 : decode cX2_digest 130 = .ok (.aload_n 0, 1) := by decide +kernel
theorem dX2_digest_131 : decode cX2_digest 131 = .ok (.getfield 10, 3) := by decide +kernel
theorem dX2_digest_134 : decode cX2_digest 134 = .ok (.getfield 127, 3) := by decide +kernel
theorem dX2_digest_137 : decode cX2_digest 137 = .ok (.if_icmp .ge 36, 3) := by decide +kernel
theorem dX2_digest_140 : decode cX2_digest 140 = .ok (.iconst 0, 1) := by decide +kernel
theorem dX2_digest_141 : decode cX2_digest 141 = .ok (.istore 4, 2) := by decide +kernel
theorem dX2_digest_143 : decode cX2_digest 143 = .ok (.iload 4, 2) := by decide +kernel
theorem dX2_digest_145 : decode cX2_digest 145 = .ok (.iconst 3, 1) := by decide +kernel
theorem dX2_digest_146 : decode cX2_digest 146 = .ok (.if_icmp .ge 21, 3) := by decide +kernel
theorem dX2_digest_149 : decode cX2_digest 149 = .ok (.lload_n 1, 1) := by decide +kernel
theorem dX2_digest_150 : decode cX2_digest 150 = .ok (.aload_n 0, 1) := by decide +kernel
theorem dX2_digest_151 : decode cX2_digest 151 = .ok (.iload_n 3, 1) := by decide +kernel
theorem dX2_digest_152 : decode cX2_digest 152 = .ok (.iload 4, 2) := by decide +kernel
theorem dX2_digest_154 : decode cX2_digest 154 = .ok (.invokevirtual 223, 3) := by decide +kernel
theorem dX2_digest_157 : decode cX2_digest 157 = .ok (.invokestatic 213, 3) := by decide +kernel
theorem dX2_digest_160 : decode cX2_digest 160 = .ok (.lstore_n 1, 1) := by decide +kernel
theorem dX2_digest_161 : decode cX2_digest 161 = .ok (.iinc 4 1, 3) := by decide +kernel
theorem dX2_digest_164 : decode cX2_digest 164 = .ok (.goto (-21), 3) := by decide +kernel
theorem dX2_digest_167 : decode cX2_digest 167 = .ok (.iinc 3 1, 3) := by decide +kernel
theorem dX2_digest_170 : decode cX2_digest 170 = .ok (.goto (-41), 3) := by decide +kernel
theorem dX2_digest_173 : decode cX2_digest 173 = .ok (.lload_n 1, 1) := by decide +kernel
theorem dX2_digest_174 : decode cX2_digest 174 = .ok (.lreturn, 1) := by decide +kernel
set_option maxRecDepth 20000 in
theorem ggX2_inTuneIfTuned_X0_takeOver : GoodIn wsX2_inTuneIfTuned wsX0_takeOver := goodIn_r _ [6, 7, 8, 9, 10, 11, 12, 13, 14, 15, 16, 17, 18, 19, 98, 99, 100, 101, 102, 103, 104, 105, 106, 107, 108, 109, 110, 111, 112] (by decide +kernel) (by decide +kernel)
set_option maxRecDepth 20000 in
theorem gX2_inTuneIfTuned_X0_takeOver_n192 : GoodIn wsX2_inTuneIfTuned (wsX0_takeOver) := ggX2_inTuneIfTuned_X0_takeOver
set_option maxRecDepth 20000 in
theorem ggX2_inTuneIfTuned_X0_tuneTo : GoodIn wsX2_inTuneIfTuned wsX0_tuneTo := goodIn_r _ [22, 10, 23, 24, 25, 4, 26, 11, 27, 28, 29, 30, 7, 31, 32, 33, 34, 9, 35, 36, 37, 38, 39, 40, 41, 42, 43, 44, 45, 46, 47, 98, 99, 100, 101, 102, 103, 104, 105, 106, 107, 108, 109, 110, 111, 112] (by decide +kernel) (by decide +kernel)
set_option maxRecDepth 20000 in
theorem gX2_inTuneIfTuned_X0_tuneTo_n226 : GoodIn wsX2_inTuneIfTuned (wsX0_tuneTo) := ggX2_inTuneIfTuned_X0_tuneTo
set_option maxRecDepth 20000 in
theorem ggX2_inTuneIfTuned_X0_letGoBy : GoodIn wsX2_inTuneIfTuned wsX0_letGoBy := goodIn_r _ [50, 16, 51, 52, 53, 4, 54, 14, 15, 55, 56, 57, 58, 59, 60, 61, 62, 7, 63, 64, 19, 65, 66, 67, 68, 69, 70, 71, 72, 73, 11, 8, 74, 75, 76, 77, 45, 46, 47, 78, 79, 80, 81, 9, 10, 82, 83, 84, 27, 28, 29, 30, 35, 36, 37, 38, 39, 40, 85, 86, 87, 88, 89, 90, 17, 18, 13, 12, 91, 92, 93, 94, 98, 99, 100, 101, 102, 103, 104, 105, 106, 107, 108, 109, 110, 111, 112, 113, 114, 115, 116, 117] (by decide +kernel) (by decide +kernel)
set_option maxRecDepth 20000 in
theorem gX2_inTuneIfTuned_X0_letGoBy_n155 : GoodIn wsX2_inTuneIfTuned (wsX0_letGoBy) := ggX2_inTuneIfTuned_X0_letGoBy
theorem dX2_inTuneIfTuned_0 : decode cX2_inTuneIfTuned 0 = .ok (.aload_n 0, 1) := by decide +kernel
theorem dX2_inTuneIfTuned_1 : decode cX2_inTuneIfTuned 1 = .ok (.getfield 25, 3) := by decide +kernel
theorem dX2_inTuneIfTuned_4 : decode cX2_inTuneIfTuned 4 = .ok (.aload_n 0, 1) := by decide +kernel
theorem dX2_inTuneIfTuned_5 : decode cX2_inTuneIfTuned 5 = .ok (.getfield 21, 3) := by decide +kernel
theorem dX2_inTuneIfTuned_8 : decode cX2_inTuneIfTuned 8 = .ok (.invokevirtual 192, 3) := by decide +kernel
theorem dX2_inTuneIfTuned_11 : decode cX2_inTuneIfTuned 11 = .ok (.aload_n 0, 1) := by decide +kernel
theorem dX2_inTuneIfTuned_12 : decode cX2_inTuneIfTuned 12 = .ok (.getfield 25, 3) := by decide +kernel
theorem dX2_inTuneIfTuned_15 : decode cX2_inTuneIfTuned 15 = .ok (.iload_n 1, 1) := by decide +kernel
theorem dX2_inTuneIfTuned_16 : decode cX2_inTuneIfTuned 16 = .ok (.iload_n 2, 1) := by decide +kernel
theorem dX2_inTuneIfTuned_17 : decode cX2_inTuneIfTuned 17 = .ok (.invokevirtual 226, 3) := by decide +kernel
theorem dX2_inTuneIfTuned_20 : decode cX2_inTuneIfTuned 20 = .ok (.aload_n 0, 1) := by decide +kernel
theorem dX2_inTuneIfTuned_21 : decode cX2_inTuneIfTuned 21 = .ok (.getfield 25, 3) := by decide +kernel
theorem dX2_inTuneIfTuned_24 : decode cX2_inTuneIfTuned 24 = .ok (.iload_n 3, 1) := by decide +kernel
theorem dX2_inTuneIfTuned_25 : decode cX2_inTuneIfTuned 25 = .ok (.invokevirtual 155, 3) := by decide +kernel
theorem dX2_inTuneIfTuned_28 : decode cX2_inTuneIfTuned 28 = .ok (.aload_n 0, 1) := by decide +kernel
theorem dX2_inTuneIfTuned_29 : decode cX2_inTuneIfTuned 29 = .ok (.getfield 25, 3) := by decide +kernel
theorem dX2_inTuneIfTuned_32 : decode cX2_inTuneIfTuned 32 = .ok (.getfield 170, 3) := by decide +kernel
theorem dX2_inTuneIfTuned_35 : decode cX2_inTuneIfTuned 35 = .ok (.ireturn, 1) := by decide +kernel
set_option maxRecDepth 20000 in
theorem ggX2_missedIfPumped_X0_takeOver : GoodIn wsX2_missedIfPumped wsX0_takeOver := goodIn_r _ [6, 7, 8, 9, 10, 11, 12, 13, 14, 15, 16, 17, 18, 19, 86, 87, 88, 89, 90, 91, 92, 93, 94, 95, 96, 97, 98, 99, 100] (by decide +kernel) (by decide +kernel)
set_option maxRecDepth 20000 in
theorem gX2_missedIfPumped_X0_takeOver_n192 : GoodIn wsX2_missedIfPumped (wsX0_takeOver) := ggX2_missedIfPumped_X0_takeOver
set_option maxRecDepth 20000 in
theorem ggX2_missedIfPumped_X0_setPump : GoodIn wsX2_missedIfPumped wsX0_setPump := goodIn_r _ [22, 15, 23, 24, 25, 86, 87, 88, 89, 90, 91, 92, 93, 94, 95, 96, 97, 98, 99, 100] (by decide +kernel) (by decide +kernel)
set_option maxRecDepth 20000 in
theorem gX2_missedIfPumped_X0_setPump_n230 : GoodIn wsX2_missedIfPumped (wsX0_setPump) := ggX2_missedIfPumped_X0_setPump
set_option maxRecDepth 20000 in
theorem ggX2_missedIfPumped_X0_letGoBy : GoodIn wsX2_missedIfPumped wsX0_letGoBy := goodIn_r _ [28, 16, 29, 30, 31, 4, 32, 14, 15, 33, 34, 35, 36, 37, 38, 39, 40, 7, 41, 42, 19, 43, 44, 45, 46, 47, 48, 49, 50, 51, 11, 8, 52, 53, 54, 55, 23, 24, 25, 56, 57, 58, 59, 9, 10, 60, 61, 62, 63, 64, 65, 66, 67, 68, 69, 70, 71, 72, 73, 74, 75, 76, 77, 78, 17, 18, 13, 12, 79, 80, 81, 82, 86, 87, 88, 89, 90, 91, 92, 93, 94, 95, 96, 97, 98, 99, 100, 101, 102, 103, 104, 105] (by decide +kernel) (by decide +kernel)
set_option maxRecDepth 20000 in
theorem gX2_missedIfPumped_X0_letGoBy_n155 : GoodIn wsX2_missedIfPumped (wsX0_letGoBy) := ggX2_missedIfPumped_X0_letGoBy
theorem dX2_missedIfPumped_0 : decode cX2_missedIfPumped 0 = .ok (.aload_n 0, 1) := by decide +kernel
theorem dX2_missedIfPumped_1 : decode cX2_missedIfPumped 1 = .ok (.getfield 25, 3) := by decide +kernel
theorem dX2_missedIfPumped_4 : decode cX2_missedIfPumped 4 = .ok (.aload_n 0, 1) := by decide +kernel
theorem dX2_missedIfPumped_5 : decode cX2_missedIfPumped 5 = .ok (.getfield 21, 3) := by decide +kernel
theorem dX2_missedIfPumped_8 : decode cX2_missedIfPumped 8 = .ok (.invokevirtual 192, 3) := by decide +kernel
theorem dX2_missedIfPumped_11 : decode cX2_missedIfPumped 11 = .ok (.aload_n 0, 1) := by decide +kernel
theorem dX2_missedIfPumped_12 : decode cX2_missedIfPumped 12 = .ok (.getfield 25, 3) := by decide +kernel
theorem dX2_missedIfPumped_15 : decode cX2_missedIfPumped 15 = .ok (.iload_n 1, 1) := by decide +kernel
theorem dX2_missedIfPumped_16 : decode cX2_missedIfPumped 16 = .ok (.iload_n 2, 1) := by decide +kernel
theorem dX2_missedIfPumped_17 : decode cX2_missedIfPumped 17 = .ok (.invokevirtual 230, 3) := by decide +kernel
theorem dX2_missedIfPumped_20 : decode cX2_missedIfPumped 20 = .ok (.aload_n 0, 1) := by decide +kernel
theorem dX2_missedIfPumped_21 : decode cX2_missedIfPumped 21 = .ok (.getfield 25, 3) := by decide +kernel
theorem dX2_missedIfPumped_24 : decode cX2_missedIfPumped 24 = .ok (.iload_n 3, 1) := by decide +kernel
theorem dX2_missedIfPumped_25 : decode cX2_missedIfPumped 25 = .ok (.invokevirtual 155, 3) := by decide +kernel
theorem dX2_missedIfPumped_28 : decode cX2_missedIfPumped 28 = .ok (.aload_n 0, 1) := by decide +kernel
theorem dX2_missedIfPumped_29 : decode cX2_missedIfPumped 29 = .ok (.getfield 25, 3) := by decide +kernel
theorem dX2_missedIfPumped_32 : decode cX2_missedIfPumped 32 = .ok (.getfield 173, 3) := by decide +kernel
theorem dX2_missedIfPumped_35 : decode cX2_missedIfPumped 35 = .ok (.ireturn, 1) := by decide +kernel
theorem dX2_digested_0 : decode cX2_digested 0 = .ok (.lload_n 0, 1) := by decide +kernel
theorem dX2_digested_1 : decode cX2_digested 1 = .ok (.ldc2_w 233, 3) := by decide +kernel
theorem dX2_digested_4 : decode cX2_digested 4 = .ok (.lmul, 1) := by decide +kernel
theorem dX2_digested_5 : decode cX2_digested 5 = .ok (.iload_n 2, 1) := by decide +kernel
theorem dX2_digested_6 : decode cX2_digested 6 = .ok (.i2l, 1) := by decide +kernel
theorem dX2_digested_7 : decode cX2_digested 7 = .ok (.ladd, 1) := by decide +kernel
theorem dX2_digested_8 : decode cX2_digested 8 = .ok (.lreturn, 1) := by decide +kernel
theorem dX2_isWithin_0 : decode cX2_isWithin 0 = .ok (.iload_n 0, 1) := by decide +kernel
theorem dX2_isWithin_1 : decode cX2_isWithin 1 = .ok (.iload_n 1, 1) := by decide +kernel
theorem dX2_isWithin_2 : decode cX2_isWithin 2 = .ok (.if_icmp .lt 12, 3) := by decide +kernel
theorem dX2_isWithin_5 : decode cX2_isWithin 5 = .ok (.iload_n 0, 1) := by decide +kernel
theorem dX2_isWithin_6 : decode cX2_isWithin 6 = .ok (.iload_n 2, 1) := by decide +kernel
theorem dX2_isWithin_7 : decode cX2_isWithin 7 = .ok (.if_icmp .gt 7, 3) := by decide +kernel
theorem dX2_isWithin_10 : decode cX2_isWithin 10 = .ok (.iconst 1, 1) := by decide +kernel
theorem dX2_isWithin_11 : decode cX2_isWithin 11 = .ok (.goto 4, 3) := by decide +kernel
theorem dX2_isWithin_14 : decode cX2_isWithin 14 = .ok (.iconst 0, 1) := by decide +kernel
theorem dX2_isWithin_15 : decode cX2_isWithin 15 = .ok (.ireturn, 1) := by decide +kernel
theorem dX2_distance_0 : decode cX2_distance 0 = .ok (.iload_n 0, 1) := by decide +kernel
theorem dX2_distance_1 : decode cX2_distance 1 = .ok (.iload_n 1, 1) := by decide +kernel
theorem dX2_distance_2 : decode cX2_distance 2 = .ok (.if_icmp .ge 9, 3) := by decide +kernel
theorem dX2_distance_5 : decode cX2_distance 5 = .ok (.iload_n 1, 1) := by decide +kernel
theorem dX2_distance_6 : decode cX2_distance 6 = .ok (.iload_n 0, 1) := by decide +kernel
theorem dX2_distance_7 : decode cX2_distance 7 = .ok (.isub, 1) := by decide +kernel
theorem dX2_distance_8 : decode cX2_distance 8 = .ok (.goto 6, 3) := by decide +kernel
theorem dX2_distance_11 : decode cX2_distance 11 = .ok (.iload_n 0, 1) := by decide +kernel
theorem dX2_distance_12 : decode cX2_distance 12 = .ok (.iload_n 1, 1) := by decide +kernel
theorem dX2_distance_13 : decode cX2_distance 13 = .ok (.isub, 1) := by decide +kernel
theorem dX2_distance_14 : decode cX2_distance 14 = .ok (.ireturn, 1) := by decide +kernel
