theorem dX3_fillFrame_0 : decode cX3_fillFrame 0 = .ok (.aload_n 0, 1) := by decide +kernel
theorem dX3_fillFrame_1 : decode cX3_fillFrame 1 = .ok (.getfield 15, 3) := by decide +kernel
theorem dX3_fillFrame_4 : decode cX3_fillFrame 4 = .ok (.invokestatic 37, 3) := by decide +kernel
theorem dX3_fillFrame_7 : decode cX3_fillFrame 7 = .ok (.iconst 4, 1) := by decide +kernel
theorem dX3_fillFrame_8 : decode cX3_fillFrame 8 = .ok (.isub, 1) := by decide +kernel
theorem dX3_fillFrame_9 : decode cX3_fillFrame 9 = .ok (.istore_n 3, 1) := by decide +kernel
theorem dX3_fillFrame_10 : decode cX3_fillFrame 10 = .ok (.aload_n 1, 1) := by decide +kernel
theorem dX3_fillFrame_11 : decode cX3_fillFrame 11 = .ok (.iconst 0, 1) := by decide +kernel
theorem dX3_fillFrame_12 : decode cX3_fillFrame 12 = .ok (.iload_n 2, 1) := by decide +kernel
theorem dX3_fillFrame_13 : decode cX3_fillFrame 13 = .ok (.iastore, 1) := by decide +kernel
theorem dX3_fillFrame_14 : decode cX3_fillFrame 14 = .ok (.aload_n 1, 1) := by decide +kernel
theorem dX3_fillFrame_15 : decode cX3_fillFrame 15 = .ok (.iconst 1, 1) := by decide +kernel
theorem dX3_fillFrame_16 : decode cX3_fillFrame 16 = .ok (.aload_n 0, 1) := by decide +kernel
theorem dX3_fillFrame_17 : decode cX3_fillFrame 17 = .ok (.getfield 30, 3) := by decide +kernel
theorem dX3_fillFrame_20 : decode cX3_fillFrame 20 = .ok (.iastore, 1) := by decide +kernel
theorem dX3_fillFrame_21 : decode cX3_fillFrame 21 = .ok (.aload_n 1, 1) := by decide +kernel
theorem dX3_fillFrame_22 : decode cX3_fillFrame 22 = .ok (.iconst 2, 1) := by decide +kernel
theorem dX3_fillFrame_23 : decode cX3_fillFrame 23 = .ok (.aload_n 0, 1) := by decide +kernel
theorem dX3_fillFrame_24 : decode cX3_fillFrame 24 = .ok (.getfield 15, 3) := by decide +kernel
theorem dX3_fillFrame_27 : decode cX3_fillFrame 27 = .ok (.iastore, 1) := by decide +kernel
theorem dX3_fillFrame_28 : decode cX3_fillFrame 28 = .ok (.aload_n 0, 1) := by decide +kernel
theorem dX3_fillFrame_29 : decode cX3_fillFrame 29 = .ok (.getfield 9, 3) := by decide +kernel
theorem dX3_fillFrame_32 : decode cX3_fillFrame 32 = .ok (.iconst 0, 1) := by decide +kernel
theorem dX3_fillFrame_33 : decode cX3_fillFrame 33 = .ok (.aload_n 1, 1) := by decide +kernel
theorem dX3_fillFrame_34 : decode cX3_fillFrame 34 = .ok (.iconst 3, 1) := by decide +kernel
theorem dX3_fillFrame_35 : decode cX3_fillFrame 35 = .ok (.aload_n 0, 1) := by decide +kernel
theorem dX3_fillFrame_36 : decode cX3_fillFrame 36 = .ok (.getfield 15, 3) := by decide +kernel
theorem dX3_fillFrame_39 : decode cX3_fillFrame 39 = .ok (.invokestatic 41, 3) := by decide +kernel
theorem dX3_fillFrame_42 : decode cX3_fillFrame 42 = .ok (.aload_n 1, 1) := by decide +kernel
theorem dX3_fillFrame_43 : decode cX3_fillFrame 43 = .ok (.iconst 3, 1) := by decide +kernel
theorem dX3_fillFrame_44 : decode cX3_fillFrame 44 = .ok (.aload_n 0, 1) := by decide +kernel
theorem dX3_fillFrame_45 : decode cX3_fillFrame 45 = .ok (.getfield 15, 3) := by decide +kernel
theorem dX3_fillFrame_48 : decode cX3_fillFrame 48 = .ok (.iadd, 1) := by decide +kernel
theorem dX3_fillFrame_49 : decode cX3_fillFrame 49 = .ok (.iload_n 3, 1) := by decide +kernel
theorem dX3_fillFrame_50 : decode cX3_fillFrame 50 = .ok (.iconst 0, 1) := by decide +kernel
theorem dX3_fillFrame_51 : decode cX3_fillFrame 51 = .ok (.invokestatic 47, 3) := by decide +kernel
theorem dX3_fillFrame_54 : decode cX3_fillFrame 54 = .ok (.aload_n 1, 1) := by decide +kernel
theorem dX3_fillFrame_55 : decode cX3_fillFrame 55 = .ok (.iload_n 3, 1) := by decide +kernel
theorem dX3_fillFrame_56 : decode cX3_fillFrame 56 = .ok (.invokestatic 53, 3) := by decide +kernel
theorem dX3_fillFrame_59 : decode cX3_fillFrame 59 = .ok (.istore 4, 2) := by decide +kernel
theorem dX3_fillFrame_61 : decode cX3_fillFrame 61 = .ok (.iconst 0, 1) := by decide +kernel
theorem dX3_fillFrame_62 : decode cX3_fillFrame 62 = .ok (.istore 5, 2) := by decide +kernel
theorem dX3_fillFrame_64 : decode cX3_fillFrame 64 = .ok (.iload 5, 2) := by decide +kernel
theorem dX3_fillFrame_66 : decode cX3_fillFrame 66 = .ok (.iconst 4, 1) := by decide +kernel
theorem dX3_fillFrame_67 : decode cX3_fillFrame 67 = .ok (.if_icmp .ge 27, 3) := by decide +kernel
theorem dX3_fillFrame_70 : decode cX3_fillFrame 70 = .ok (.aload_n 1, 1) := by decide +kernel
theorem dX3_fillFrame_71 : decode cX3_fillFrame 71 = .ok (.iload_n 3, 1) := by decide +kernel
theorem dX3_fillFrame_72 : decode cX3_fillFrame 72 = .ok (.iload 5, 2) := by decide +kernel
theorem dX3_fillFrame_74 : decode cX3_fillFrame 74 = .ok (.iadd, 1) := by decide +kernel
theorem dX3_fillFrame_75 : decode cX3_fillFrame 75 = .ok (.iload 4, 2) := by decide +kernel
theorem dX3_fillFrame_77 : decode cX3_fillFrame 77 = .ok (.bipush 8, 2) := by decide +kernel
theorem dX3_fillFrame_79 : decode cX3_fillFrame 79 = .ok (.iload 5, 2) := by decide +kernel
theorem dX3_fillFrame_81 : decode cX3_fillFrame 81 = .ok (.imul, 1) := by decide +kernel
theorem dX3_fillFrame_82 : decode cX3_fillFrame 82 = .ok (.iushr, 1) := by decide +kernel
theorem dX3_fillFrame_83 : decode cX3_fillFrame 83 = .ok (.sipush 255, 3) := by decide +kernel
theorem dX3_fillFrame_86 : decode cX3_fillFrame 86 = .ok (.iand, 1) := by decide +kernel
theorem dX3_fillFrame_87 : decode cX3_fillFrame 87 = .ok (.iastore, 1) := by decide +kernel
theorem dX3_fillFrame_88 : decode cX3_fillFrame 88 = .ok (.iinc 5 1, 3) := by decide +kernel
theorem dX3_fillFrame_91 : decode cX3_fillFrame 91 = .ok (.goto (-27), 3) := by decide +kernel
theorem dX3_fillFrame_94 : decode cX3_fillFrame 94 = .ok (.return_, 1) := by decide +kernel
theorem dX3_takeFirst_0 : decode cX3_takeFirst 0 = .ok (.aload_n 0, 1) := by decide +kernel
theorem dX3_takeFirst_1 : decode cX3_takeFirst 1 = .ok (.getfield 21, 3) := by decide +kernel
theorem dX3_takeFirst_4 : decode cX3_takeFirst 4 = .ok (.aload_n 0, 1) := by decide +kernel
theorem dX3_takeFirst_5 : decode cX3_takeFirst 5 = .ok (.getfield 24, 3) := by decide +kernel
theorem dX3_takeFirst_8 : decode cX3_takeFirst 8 = .ok (.aaload, 1) := by decide +kernel
theorem dX3_takeFirst_9 : decode cX3_takeFirst 9 = .ok (.astore_n 1, 1) := by decide +kernel
theorem dX3_takeFirst_10 : decode cX3_takeFirst 10 = .ok (.aload_n 0, 1) := by decide +kernel
theorem dX3_takeFirst_11 : decode cX3_takeFirst 11 = .ok (.aload_n 0, 1) := by decide +kernel
theorem dX3_takeFirst_12 : decode cX3_takeFirst 12 = .ok (.getfield 24, 3) := by decide +kernel
theorem dX3_takeFirst_15 : decode cX3_takeFirst 15 = .ok (.iconst 1, 1) := by decide +kernel
theorem dX3_takeFirst_16 : decode cX3_takeFirst 16 = .ok (.iadd, 1) := by decide +kernel
theorem dX3_takeFirst_17 : decode cX3_takeFirst 17 = .ok (.iconst 4, 1) := by decide +kernel
theorem dX3_takeFirst_18 : decode cX3_takeFirst 18 = .ok (.irem, 1) := by decide +kernel
theorem dX3_takeFirst_19 : decode cX3_takeFirst 19 = .ok (.putfield 24, 3) := by decide +kernel
theorem dX3_takeFirst_22 : decode cX3_takeFirst 22 = .ok (.aload_n 0, 1) := by decide +kernel
theorem dX3_takeFirst_23 : decode cX3_takeFirst 23 = .ok (.dup, 1) := by decide +kernel
theorem dX3_takeFirst_24 : decode cX3_takeFirst 24 = .ok (.getfield 27, 3) := by decide +kernel
theorem dX3_takeFirst_27 : decode cX3_takeFirst 27 = .ok (.iconst 1, 1) := by decide +kernel
theorem dX3_takeFirst_28 : decode cX3_takeFirst 28 = .ok (.isub, 1) := by decide +kernel
theorem dX3_takeFirst_29 : decode cX3_takeFirst 29 = .ok (.putfield 27, 3) := by decide +kernel
theorem dX3_takeFirst_32 : decode cX3_takeFirst 32 = .ok (.aload_n 1, 1) := by decide +kernel
theorem dX3_takeFirst_33 : decode cX3_takeFirst 33 = .ok (.areturn, 1) := by decide +kernel
theorem dX4_init_0 : decode cX4_init 0 = .ok (.aload_n 0, 1) := by decide +kernel
theorem dX4_init_1 : decode cX4_init 1 = .ok (.invokespecial 3, 3) := by decide +kernel
theorem dX4_init_4 : decode cX4_init 4 = .ok (.aload_n 0, 1) := by decide +kernel
theorem dX4_init_5 : decode cX4_init 5 = .ok (.bipush 40, 2) := by decide +kernel
theorem dX4_init_7 : decode cX4_init 7 = .ok (.newarray .int, 2) := by decide +kernel
theorem dX4_init_9 : decode cX4_init 9 = .ok (.putfield 11, 3) := by decide +kernel
theorem dX4_init_12 : decode cX4_init 12 = .ok (.aload_n 0, 1) := by decide +kernel
theorem dX4_init_13 : decode cX4_init 13 = .ok (.iconst 0, 1) := by decide +kernel
theorem dX4_init_14 : decode cX4_init 14 = .ok (.putfield 15, 3) := by decide +kernel
theorem dX4_init_17 : decode cX4_init 17 = .ok (.aload_n 0, 1) := by decide +kernel
theorem dX4_init_18 : decode cX4_init 18 = .ok (.iconst 0, 1) := by decide +kernel
theorem dX4_init_19 : decode cX4_init 19 = .ok (.putfield 19, 3) := by decide +kernel
theorem dX4_init_22 : decode cX4_init 22 = .ok (.aload_n 0, 1) := by decide +kernel
theorem dX4_init_23 : decode cX4_init 23 = .ok (.iconst 0, 1) := by decide +kernel
theorem dX4_init_24 : decode cX4_init 24 = .ok (.putfield 22, 3) := by decide +kernel
theorem dX4_init_27 : decode cX4_init 27 = .ok (.aload_n 0, 1) := by decide +kernel
theorem dX4_init_28 : decode cX4_init 28 = .ok (.iconst 0, 1) := by decide +kernel
theorem dX4_init_29 : decode cX4_init 29 = .ok (.putfield 25, 3) := by decide +kernel
theorem dX4_init_32 : decode cX4_init 32 = .ok (.aload_n 0, 1) := by decide +kernel
theorem dX4_init_33 : decode cX4_init 33 = .ok (.iconst 0, 1) := by decide +kernel
theorem dX4_init_34 : decode cX4_init 34 = .ok (.putfield 29, 3) := by decide +kernel
theorem dX4_init_37 : decode cX4_init 37 = .ok (.aload_n 0, 1) := by decide +kernel
theorem dX4_init_38 : decode cX4_init 38 = .ok (.iconst 0, 1) := by decide +kernel
theorem dX4_init_39 : decode cX4_init 39 = .ok (.putfield 32, 3) := by decide +kernel
theorem dX4_init_42 : decode cX4_init 42 = .ok (.aload_n 0, 1) := by decide +kernel
theorem dX4_init_43 : decode cX4_init 43 = .ok (.iload_n 1, 1) := by decide +kernel
theorem dX4_init_44 : decode cX4_init 44 = .ok (.putfield 35, 3) := by decide +kernel
theorem dX4_init_47 : decode cX4_init 47 = .ok (.return_, 1) := by decide +kernel
theorem dX4_begin_0 : decode cX4_begin 0 = .ok (.aload_n 0, 1) := by decide +kernel
theorem dX4_begin_1 : decode cX4_begin 1 = .ok (.iconst 0, 1) := by decide +kernel
theorem dX4_begin_2 : decode cX4_begin 2 = .ok (.putfield 15, 3) := by decide +kernel
theorem dX4_begin_5 : decode cX4_begin 5 = .ok (.aload_n 0, 1) := by decide +kernel
theorem dX4_begin_6 : decode cX4_begin 6 = .ok (.iconst 0, 1) := by decide +kernel
theorem dX4_begin_7 : decode cX4_begin 7 = .ok (.putfield 19, 3) := by decide +kernel
theorem dX4_begin_10 : decode cX4_begin 10 = .ok (.aload_n 0, 1) := by decide +kernel
theorem dX4_begin_11 : decode cX4_begin 11 = .ok (.iconst 0, 1) := by decide +kernel
theorem dX4_begin_12 : decode cX4_begin 12 = .ok (.putfield 22, 3) := by decide +kernel
theorem dX4_begin_15 : decode cX4_begin 15 = .ok (.aload_n 0, 1) := by decide +kernel
theorem dX4_begin_16 : decode cX4_begin 16 = .ok (.iconst 0, 1) := by decide +kernel
theorem dX4_begin_17 : decode cX4_begin 17 = .ok (.putfield 25, 3) := by decide +kernel
theorem dX4_begin_20 : decode cX4_begin 20 = .ok (.aload_n 0, 1) := by decide +kernel
theorem dX4_begin_21 : decode cX4_begin 21 = .ok (.iconst 0, 1) := by decide +kernel
theorem dX4_begin_22 : decode cX4_begin 22 = .ok (.putfield 29, 3) := by decide +kernel
theorem dX4_begin_25 : decode cX4_begin 25 = .ok (.aload_n 0, 1) := by decide +kernel
theorem dX4_begin_26 : decode cX4_begin 26 = .ok (.iconst 0, 1) := by decide +kernel
theorem dX4_begin_27 : decode cX4_begin 27 = .ok (.putfield 32, 3) := by decide +kernel
theorem dX4_begin_30 : decode cX4_begin 30 = .ok (.return_, 1) := by decide +kernel
set_option maxRecDepth 20000 in
theorem ggX4_takeBit_X4_takeGroup : GoodIn wsX4_takeBit wsX4_takeGroup := goodIn_r _ [7, 8, 9, 10, 11, 6, 12, 13, 14, 15, 16, 17, 18, 19, 20, 21, 22, 23, 24, 25, 26, 27, 28, 29, 30, 31, 32, 33, 34, 35, 36, 37, 38, 39, 40, 41, 42, 43, 44, 45, 46, 47] (by decide +kernel) (by decide +kernel)
set_option maxRecDepth 20000 in
theorem gX4_takeBit_X4_takeGroup : GoodIn wsX4_takeBit (wsV RX4 38 RX4 yX4_takeGroup wsX4_takeGroup) := goodIn_app (goodIn_of _ (by decide +kernel)) ggX4_takeBit_X4_takeGroup
theorem dX4_takeBit_0 : decode cX4_takeBit 0 = .ok (.aload_n 0, 1) := by decide +kernel
theorem dX4_takeBit_1 : decode cX4_takeBit 1 = .ok (.iconst 2, 1) := by decide +kernel
theorem dX4_takeBit_2 : decode cX4_takeBit 2 = .ok (.aload_n 0, 1) := by decide +kernel
theorem dX4_takeBit_3 : decode cX4_takeBit 3 = .ok (.getfield 19, 3) := by decide +kernel
theorem dX4_takeBit_6 : decode cX4_takeBit 6 = .ok (.imul, 1) := by decide +kernel
theorem dX4_takeBit_7 : decode cX4_takeBit 7 = .ok (.iload_n 1, 1) := by decide +kernel
theorem dX4_takeBit_8 : decode cX4_takeBit 8 = .ok (.iadd, 1) := by decide +kernel
theorem dX4_takeBit_9 : decode cX4_takeBit 9 = .ok (.putfield 19, 3) := by decide +kernel
theorem dX4_takeBit_12 : decode cX4_takeBit 12 = .ok (.aload_n 0, 1) := by decide +kernel
theorem dX4_takeBit_13 : decode cX4_takeBit 13 = .ok (.dup, 1) := by decide +kernel
theorem dX4_takeBit_14 : decode cX4_takeBit 14 = .ok (.getfield 22, 3) := by decide +kernel
theorem dX4_takeBit_17 : decode cX4_takeBit 17 = .ok (.iconst 1, 1) := by decide +kernel
theorem dX4_takeBit_18 : decode cX4_takeBit 18 = .ok (.iadd, 1) := by decide +kernel
theorem dX4_takeBit_19 : decode cX4_takeBit 19 = .ok (.putfield 22, 3) := by decide +kernel
theorem dX4_takeBit_22 : decode cX4_takeBit 22 = .ok (.aload_n 0, 1) := by decide +kernel
theorem dX4_takeBit_23 : decode cX4_takeBit 23 = .ok (.getfield 22, 3) := by decide +kernel
theorem dX4_takeBit_26 : decode cX4_takeBit 26 = .ok (.iconst 5, 1) := by decide +kernel
theorem dX4_takeBit_27 : decode cX4_takeBit 27 = .ok (.if_icmp .ge 5, 3) := by decide +kernel
theorem dX4_takeBit_30 : decode cX4_takeBit 30 = .ok (.iconst (-1), 1) := by decide +kernel
theorem dX4_takeBit_31 : decode cX4_takeBit 31 = .ok (.ireturn, 1) := by decide +kernel
theorem dX4_takeBit_32 : decode cX4_takeBit 32 = .ok (.aload_n 0, 1) := by decide +kernel
theorem dX4_takeBit_33 : decode cX4_takeBit 33 = .ok (.getfield 19, 3) := by decide +kernel
theorem dX4_takeBit_36 : decode cX4_takeBit 36 = .ok (.istore_n 2, 1) := by decide +kernel
theorem dX4_takeBit_37 : decode cX4_takeBit 37 = .ok (.aload_n 0, 1) := by decide +kernel
theorem dX4_takeBit_38 : decode cX4_takeBit 38 = .ok (.iconst 0, 1) := by decide +kernel
theorem dX4_takeBit_39 : decode cX4_takeBit 39 = .ok (.putfield 19, 3) := by decide +kernel
theorem dX4_takeBit_42 : decode cX4_takeBit 42 = .ok (.aload_n 0, 1) := by decide +kernel
theorem dX4_takeBit_43 : decode cX4_takeBit 43 = .ok (.iconst 0, 1) := by decide +kernel
theorem dX4_takeBit_44 : decode cX4_takeBit 44 = .ok (.putfield 22, 3) := by decide +kernel
theorem dX4_takeBit_47 : decode cX4_takeBit 47 = .ok (.aload_n 0, 1) := by decide +kernel
theorem dX4_takeBit_48 : decode cX4_takeBit 48 = .ok (.iload_n 2, 1) := by decide +kernel
theorem dX4_takeBit_49 : decode cX4_takeBit 49 = .ok (.invokevirtual 38, 3) := by decide +kernel
theorem dX4_takeBit_52 : decode cX4_takeBit 52 = .ok (.ireturn, 1) := by decide +kernel
set_option maxRecDepth 20000 in
theorem ggX4_takeGroup_X4_judge : GoodIn wsX4_takeGroup wsX4_judge := goodIn_r _ [6, 7, 8, 9, 10, 11, 12, 13, 14, 5, 15, 16, 17, 18, 19, 20, 21, 22, 23, 24, 25, 34, 35, 36, 37, 38, 39, 40, 41] (by decide +kernel) (by decide +kernel)
set_option maxRecDepth 20000 in
theorem gX4_takeGroup_X4_judge : GoodIn wsX4_takeGroup (wsV RX4 42 RX4 yX4_judge wsX4_judge) := goodIn_app (goodIn_of _ (by decide +kernel)) ggX4_takeGroup_X4_judge
set_option maxRecDepth 20000 in
theorem ggX4_takeGroup_X4_takeNibble : GoodIn wsX4_takeGroup wsX4_takeNibble := goodIn_r _ [29, 9, 8, 30, 31, 32, 5, 33, 7, 10, 34, 35, 36, 37, 38, 39, 40, 41] (by decide +kernel) (by decide +kernel)
set_option maxRecDepth 20000 in
theorem gX4_takeGroup_X4_takeNibble : GoodIn wsX4_takeGroup (wsV RX4 49 RX4 yX4_takeNibble wsX4_takeNibble) := goodIn_app (goodIn_of _ (by decide +kernel)) ggX4_takeGroup_X4_takeNibble
theorem dX4_takeGroup_0 : decode cX4_takeGroup 0 = .ok (.aload_n 0, 1) := by decide +kernel
theorem dX4_takeGroup_1 : decode cX4_takeGroup 1 = .ok (.getfield 32, 3) := by decide +kernel
theorem dX4_takeGroup_4 : decode cX4_takeGroup 4 = .ok (.ifCond .eq 19, 3) := by decide +kernel
theorem dX4_takeGroup_7 : decode cX4_takeGroup 7 = .ok (.iload_n 1, 1) := by decide +kernel
theorem dX4_takeGroup_8 : decode cX4_takeGroup 8 = .ok (.bipush 7, 2) := by decide +kernel
theorem dX4_takeGroup_10 : decode cX4_takeGroup 10 = .ok (.if_icmp .ne 10, 3) := by decide +kernel
theorem dX4_takeGroup_13 : decode cX4_takeGroup 13 = .ok (.aload_n 0, 1) := by decide +kernel
theorem dX4_takeGroup_14 : decode cX4_takeGroup 14 = .ok (.invokevirtual 42, 3) := by decide +kernel
theorem dX4_takeGroup_17 : decode cX4_takeGroup 17 = .ok (.goto 5, 3) := by decide +kernel
theorem dX4_takeGroup_20 : decode cX4_takeGroup 20 = .ok (.bipush 9, 2) := by decide +kernel
theorem dX4_takeGroup_22 : decode cX4_takeGroup 22 = .ok (.ireturn, 1) := by decide +kernel
theorem dX4_takeGroup_23 : decode cX4_takeGroup 23 = .ok (.iload_n 1, 1) := by decide +kernel
theorem dX4_takeGroup_24 : decode cX4_takeGroup 24 = .ok (.bipush 31, 2) := by decide +kernel
theorem dX4_takeGroup_26 : decode cX4_takeGroup 26 = .ok (.if_icmp .ne 6, 3) := by decide +kernel
theorem dX4_takeGroup_29 : decode cX4_takeGroup 29 = .ok (.bipush 8, 2) := by decide +kernel
theorem dX4_takeGroup_31 : decode cX4_takeGroup 31 = .ok (.ireturn, 1) := by decide +kernel
theorem dX4_takeGroup_32 : decode cX4_takeGroup 32 = .ok (.iload_n 1, 1) := by decide +kernel
theorem dX4_takeGroup_33 : decode cX4_takeGroup 33 = .ok (.bipush 13, 2) := by decide +kernel
theorem dX4_takeGroup_35 : decode cX4_takeGroup 35 = .ok (.if_icmp .ne 11, 3) := by decide +kernel
theorem dX4_takeGroup_38 : decode cX4_takeGroup 38 = .ok (.aload_n 0, 1) := by decide +kernel
theorem dX4_takeGroup_39 : decode cX4_takeGroup 39 = .ok (.iconst 1, 1) := by decide +kernel
theorem dX4_takeGroup_40 : decode cX4_takeGroup 40 = .ok (.putfield 32, 3) := by decide +kernel
theorem dX4_takeGroup_43 : decode cX4_takeGroup 43 = .ok (.goto 15, 3) := by decide +kernel
theorem dX4_takeGroup_46 : decode cX4_takeGroup 46 = .ok (.aload_n 0, 1) := by decide +kernel
theorem dX4_takeGroup_47 : decode cX4_takeGroup 47 = .ok (.getstatic 46, 3) := by decide +kernel
theorem dX4_takeGroup_50 : decode cX4_takeGroup 50 = .ok (.iload_n 1, 1) := by decide +kernel
theorem dX4_takeGroup_51 : decode cX4_takeGroup 51 = .ok (.bipush 31, 2) := by decide +kernel
theorem dX4_takeGroup_53 : decode cX4_takeGroup 53 = .ok (.iand, 1) := by decide +kernel
theorem dX4_takeGroup_54 : decode cX4_takeGroup 54 = .ok (.iaload, 1) := by decide +kernel
theorem dX4_takeGroup_55 : decode cX4_takeGroup 55 = .ok (.invokevirtual 49, 3) := by decide +kernel
theorem dX4_takeGroup_58 : decode cX4_takeGroup 58 = .ok (.iconst (-1), 1) := by decide +kernel
theorem dX4_takeGroup_59 : decode cX4_takeGroup 59 = .ok (.ireturn, 1) := by decide +kernel
set_option maxRecDepth 20000 in
theorem ggX4_takeNibble_X4_keepNibble : GoodIn wsX4_takeNibble wsX4_keepNibble := goodIn_r _ [7, 8, 9, 10, 11, 12, 13, 14, 15, 16, 17] (by decide +kernel) (by decide +kernel)
set_option maxRecDepth 20000 in
theorem gX4_takeNibble_X4_keepNibble : GoodIn wsX4_takeNibble (wsV RX4 53 RX4 yX4_keepNibble wsX4_keepNibble) := goodIn_app (goodIn_of _ (by decide +kernel)) ggX4_takeNibble_X4_keepNibble
theorem dX4_takeNibble_0 : decode cX4_takeNibble 0 = .ok (.iload_n 1, 1) := by decide +kernel
theorem dX4_takeNibble_1 : decode cX4_takeNibble 1 = .ok (.iconst (-1), 1) := by decide +kernel
theorem dX4_takeNibble_2 : decode cX4_takeNibble 2 = .ok (.if_icmp .ne 11, 3) := by decide +kernel
theorem dX4_takeNibble_5 : decode cX4_takeNibble 5 = .ok (.aload_n 0, 1) := by decide +kernel
theorem dX4_takeNibble_6 : decode cX4_takeNibble 6 = .ok (.iconst 1, 1) := by decide +kernel
theorem dX4_takeNibble_7 : decode cX4_takeNibble 7 = .ok (.putfield 29, 3) := by decide +kernel
theorem dX4_takeNibble_10 : decode cX4_takeNibble 10 = .ok (.goto 42, 3) := by decide +kernel
theorem dX4_takeNibble_13 : decode cX4_takeNibble 13 = .ok (.aload_n 0, 1) := by decide +kernel
theorem dX4_takeNibble_14 : decode cX4_takeNibble 14 = .ok (.getfield 25, 3) := by decide +kernel
theorem dX4_takeNibble_17 : decode cX4_takeNibble 17 = .ok (.ifCond .eq 11, 3) := by decide +kernel
theorem dX4_takeNibble_20 : decode cX4_takeNibble 20 = .ok (.aload_n 0, 1) := by decide +kernel
theorem dX4_takeNibble_21 : decode cX4_takeNibble 21 = .ok (.iload_n 1, 1) := by decide +kernel
theorem dX4_takeNibble_22 : decode cX4_takeNibble 22 = .ok (.invokevirtual 53, 3) := by decide +kernel
theorem dX4_takeNibble_25 : decode cX4_takeNibble 25 = .ok (.goto 27, 3) := by decide +kernel
theorem dX4_takeNibble_28 : decode cX4_takeNibble 28 = .ok (.iload_n 1, 1) := by decide +kernel
theorem dX4_takeNibble_29 : decode cX4_takeNibble 29 = .ok (.bipush 13, 2) := by decide +kernel
theorem dX4_takeNibble_31 : decode cX4_takeNibble 31 = .ok (.if_icmp .ne 11, 3) := by decide +kernel
theorem dX4_takeNibble_34 : decode cX4_takeNibble 34 = .ok (.aload_n 0, 1) := by decide +kernel
theorem dX4_takeNibble_35 : decode cX4_takeNibble 35 = .ok (.iconst 1, 1) := by decide +kernel
theorem dX4_takeNibble_36 : decode cX4_takeNibble 36 = .ok (.putfield 25, 3) := by decide +kernel
theorem dX4_takeNibble_39 : decode cX4_takeNibble 39 = .ok (.goto 13, 3) := by decide +kernel
theorem dX4_takeNibble_42 : decode cX4_takeNibble 42 = .ok (.iload_n 1, 1) := by decide +kernel
theorem dX4_takeNibble_43 : decode cX4_takeNibble 43 = .ok (.iconst 5, 1) := by decide +kernel
theorem dX4_takeNibble_44 : decode cX4_takeNibble 44 = .ok (.if_icmp .eq 8, 3) := by decide +kernel
theorem dX4_takeNibble_47 : decode cX4_takeNibble 47 = .ok (.aload_n 0, 1) := by decide +kernel
theorem dX4_takeNibble_48 : decode cX4_takeNibble 48 = .ok (.iconst 1, 1) := by decide +kernel
theorem dX4_takeNibble_49 : decode cX4_takeNibble 49 = .ok (.putfield 29, 3) := by decide +kernel
theorem dX4_takeNibble_52 : decode cX4_takeNibble 52 = .ok (.return_, 1) := by decide +kernel
theorem dX4_keepNibble_0 : decode cX4_keepNibble 0 = .ok (.aload_n 0, 1) := by decide +kernel
theorem dX4_keepNibble_1 : decode cX4_keepNibble 1 = .ok (.getfield 15, 3) := by decide +kernel
theorem dX4_keepNibble_4 : decode cX4_keepNibble 4 = .ok (.bipush 80, 2) := by decide +kernel
theorem dX4_keepNibble_6 : decode cX4_keepNibble 6 = .ok (.if_icmp .lt 4, 3) := by decide +kernel
theorem dX4_keepNibble_9 : decode cX4_keepNibble 9 = .ok (.return_, 1) := by decide +kernel
theorem dX4_keepNibble_10 : decode cX4_keepNibble 10 = .ok (.aload_n 0, 1) := by decide +kernel
theorem dX4_keepNibble_11 : decode cX4_keepNibble 11 = .ok (.getfield 15, 3) := by decide +kernel
theorem dX4_keepNibble_14 : decode cX4_keepNibble 14 = .ok (.iconst 2, 1) := by decide +kernel
theorem dX4_keepNibble_15 : decode cX4_keepNibble 15 = .ok (.idiv, 1) := by decide +kernel
theorem dX4_keepNibble_16 : decode cX4_keepNibble 16 = .ok (.istore_n 2, 1) := by decide +kernel
theorem dX4_keepNibble_17 : decode cX4_keepNibble 17 = .ok (.aload_n 0, 1) := by decide +kernel
theorem dX4_keepNibble_18 : decode cX4_keepNibble 18 = .ok (.getfield 11, 3) := by decide +kernel
theorem dX4_keepNibble_21 : decode cX4_keepNibble 21 = .ok (.iload_n 2, 1) := by decide +kernel
theorem dX4_keepNibble_22 : decode cX4_keepNibble 22 = .ok (.aload_n 0, 1) := by decide +kernel
theorem dX4_keepNibble_23 : decode cX4_keepNibble 23 = .ok (.getfield 15, 3) := by decide +kernel
theorem dX4_keepNibble_26 : decode cX4_keepNibble 26 = .ok (.iconst 2, 1) := by decide +kernel
theorem dX4_keepNibble_27 : decode cX4_keepNibble 27 = .ok (.irem, 1) := by decide +kernel
theorem dX4_keepNibble_28 : decode cX4_keepNibble 28 = .ok (.ifCond .ne 7, 3) := by decide +kernel
theorem dX4_keepNibble_31 : decode cX4_keepNibble 31 = .ok (.iload_n 1, 1) := by decide +kernel
theorem dX4_keepNibble_32 : decode cX4_keepNibble 32 = .ok (.goto 14, 3) := by decide +kernel
theorem dX4_keepNibble_35 : decode cX4_keepNibble 35 = .ok (.aload_n 0, 1) := by decide +kernel
theorem dX4_keepNibble_36 : decode cX4_keepNibble 36 = .ok (.getfield 11, 3) := by decide +kernel
theorem dX4_keepNibble_39 : decode cX4_keepNibble 39 = .ok (.iload_n 2, 1) := by decide +kernel
theorem dX4_keepNibble_40 : decode cX4_keepNibble 40 = .ok (.iaload, 1) := by decide +kernel
theorem dX4_keepNibble_41 : decode cX4_keepNibble 41 = .ok (.bipush 16, 2) := by decide +kernel
theorem dX4_keepNibble_43 : decode cX4_keepNibble 43 = .ok (.iload_n 1, 1) := by decide +kernel
theorem dX4_keepNibble_44 : decode cX4_keepNibble 44 = .ok (.imul, 1) := by decide +kernel
theorem dX4_keepNibble_45 : decode cX4_keepNibble 45 = .ok (.iadd, 1) := by decide +kernel
theorem dX4_keepNibble_46 : decode cX4_keepNibble 46 = .ok (.iastore, 1) := by decide +kernel
theorem dX4_keepNibble_47 : decode cX4_keepNibble 47 = .ok (.aload_n 0, 1) := by decide +kernel
theorem dX4_keepNibble_48 : decode cX4_keepNibble 48 = .ok (.dup, 1) := by decide +kernel
theorem dX4_keepNibble_49 : decode cX4_keepNibble 49 = .ok (.getfield 15, 3) := by decide +kernel
theorem dX4_keepNibble_52 : decode cX4_keepNibble 52 = .ok (.iconst 1, 1) := by decide +kernel
theorem dX4_keepNibble_53 : decode cX4_keepNibble 53 = .ok (.iadd, 1) := by decide +kernel
theorem dX4_keepNibble_54 : decode cX4_keepNibble 54 = .ok (.putfield 15, 3) := by decide +kernel
theorem dX4_keepNibble_57 : decode cX4_keepNibble 57 = .ok (.return_, 1) := by decide +kernel
set_option maxRecDepth 20000 in
theorem ggX4_judge_X4_checkRead : GoodIn wsX4_judge wsX4_checkRead := goodIn_r _ [10, 4, 21, 22, 23, 24, 25, 26, 27, 28] (by decide +kernel) (by decide +kernel)
set_option maxRecDepth 20000 in
theorem gX4_judge_X4_checkRead : GoodIn wsX4_judge (wsV RX4 56 RX4 yX4_checkRead wsX4_checkRead) := goodIn_app (goodIn_of _ (by decide +kernel)) ggX4_judge_X4_checkRead
set_option maxRecDepth 20000 in
theorem ggX4_judge_X7_checkOf : GoodIn wsX4_judge wsX7_checkOf := goodIn_r _ [13, 14] (by decide +kernel) (by decide +kernel)
set_option maxRecDepth 20000 in
theorem gX4_judge_X7_checkOf_n59 : GoodIn wsX4_judge (wsX7_checkOf) := ggX4_judge_X7_checkOf
set_option maxRecDepth 20000 in
theorem ggX4_judge_X7_frameSize : GoodIn wsX4_judge wsX7_frameSize := goodIn_r _ [16, 17, 18, 19, 20] (by decide +kernel) (by decide +kernel)
set_option maxRecDepth 20000 in
theorem gX4_judge_X7_frameSize_n63 : GoodIn wsX4_judge (wsX7_frameSize) := ggX4_judge_X7_frameSize
theorem dX4_judge_0 : decode cX4_judge 0 = .ok (.aload_n 0, 1) := by decide +kernel
theorem dX4_judge_1 : decode cX4_judge 1 = .ok (.getfield 15, 3) := by decide +kernel
theorem dX4_judge_4 : decode cX4_judge 4 = .ok (.iconst 2, 1) := by decide +kernel
theorem dX4_judge_5 : decode cX4_judge 5 = .ok (.idiv, 1) := by decide +kernel
theorem dX4_judge_6 : decode cX4_judge 6 = .ok (.istore_n 1, 1) := by decide +kernel
theorem dX4_judge_7 : decode cX4_judge 7 = .ok (.aload_n 0, 1) := by decide +kernel
theorem dX4_judge_8 : decode cX4_judge 8 = .ok (.getfield 25, 3) := by decide +kernel
theorem dX4_judge_11 : decode cX4_judge 11 = .ok (.ifCond .ne 5, 3) := by decide +kernel
theorem dX4_judge_14 : decode cX4_judge 14 = .ok (.iconst 1, 1) := by decide +kernel
theorem dX4_judge_15 : decode cX4_judge 15 = .ok (.ireturn, 1) := by decide +kernel
theorem dX4_judge_16 : decode cX4_judge 16 = .ok (.aload_n 0, 1) := by decide +kernel
theorem dX4_judge_17 : decode cX4_judge 17 = .ok (.getfield 29, 3) := by decide +kernel
theorem dX4_judge_20 : decode cX4_judge 20 = .ok (.ifCond .eq 5, 3) := by decide +kernel
theorem dX4_judge_23 : decode cX4_judge 23 = .ok (.iconst 2, 1) := by decide +kernel
theorem dX4_judge_24 : decode cX4_judge 24 = .ok (.ireturn, 1) := by decide +kernel
theorem dX4_judge_25 : decode cX4_judge 25 = .ok (.aload_n 0, 1) := by decide +kernel
theorem dX4_judge_26 : decode cX4_judge 26 = .ok (.getfield 15, 3) := by decide +kernel
theorem dX4_judge_29 : decode cX4_judge 29 = .ok (.iconst 2, 1) := by decide +kernel
theorem dX4_judge_30 : decode cX4_judge 30 = .ok (.irem, 1) := by decide +kernel
theorem dX4_judge_31 : decode cX4_judge 31 = .ok (.ifCond .eq 5, 3) := by decide +kernel
theorem dX4_judge_34 : decode cX4_judge 34 = .ok (.iconst 3, 1) := by decide +kernel
theorem dX4_judge_35 : decode cX4_judge 35 = .ok (.ireturn, 1) := by decide +kernel
theorem dX4_judge_36 : decode cX4_judge 36 = .ok (.iload_n 1, 1) := by decide +kernel
theorem dX4_judge_37 : decode cX4_judge 37 = .ok (.bipush 13, 2) := by decide +kernel
theorem dX4_judge_39 : decode cX4_judge 39 = .ok (.if_icmp .ge 5, 3) := by decide +kernel
theorem dX4_judge_42 : decode cX4_judge 42 = .ok (.iconst 4, 1) := by decide +kernel
theorem dX4_judge_43 : decode cX4_judge 43 = .ok (.ireturn, 1) := by decide +kernel
theorem dX4_judge_44 : decode cX4_judge 44 = .ok (.aload_n 0, 1) := by decide +kernel
theorem dX4_judge_45 : decode cX4_judge 45 = .ok (.iload_n 1, 1) := by decide +kernel
theorem dX4_judge_46 : decode cX4_judge 46 = .ok (.iconst 4, 1) := by decide +kernel
theorem dX4_judge_47 : decode cX4_judge 47 = .ok (.isub, 1) := by decide +kernel
theorem dX4_judge_48 : decode cX4_judge 48 = .ok (.invokevirtual 56, 3) := by decide +kernel
theorem dX4_judge_51 : decode cX4_judge 51 = .ok (.aload_n 0, 1) := by decide +kernel
theorem dX4_judge_52 : decode cX4_judge 52 = .ok (.getfield 11, 3) := by decide +kernel
theorem dX4_judge_55 : decode cX4_judge 55 = .ok (.iload_n 1, 1) := by decide +kernel
theorem dX4_judge_56 : decode cX4_judge 56 = .ok (.iconst 4, 1) := by decide +kernel
theorem dX4_judge_57 : decode cX4_judge 57 = .ok (.isub, 1) := by decide +kernel
theorem dX4_judge_58 : decode cX4_judge 58 = .ok (.invokestatic 59, 3) := by decide +kernel
theorem dX4_judge_61 : decode cX4_judge 61 = .ok (.if_icmp .eq 5, 3) := by decide +kernel
theorem dX4_judge_64 : decode cX4_judge 64 = .ok (.iconst 5, 1) := by decide +kernel
theorem dX4_judge_65 : decode cX4_judge 65 = .ok (.ireturn, 1) := by decide +kernel
theorem dX4_judge_66 : decode cX4_judge 66 = .ok (.aload_n 0, 1) := by decide +kernel
theorem dX4_judge_67 : decode cX4_judge 67 = .ok (.getfield 11, 3) := by decide +kernel
theorem dX4_judge_70 : decode cX4_judge 70 = .ok (.iconst 2, 1) := by decide +kernel
theorem dX4_judge_71 : decode cX4_judge 71 = .ok (.iaload, 1) := by decide +kernel
theorem dX4_judge_72 : decode cX4_judge 72 = .ok (.bipush 24, 2) := by decide +kernel
theorem dX4_judge_74 : decode cX4_judge 74 = .ok (.if_icmp .gt 16, 3) := by decide +kernel
theorem dX4_judge_77 : decode cX4_judge 77 = .ok (.iload_n 1, 1) := by decide +kernel
theorem dX4_judge_78 : decode cX4_judge 78 = .ok (.aload_n 0, 1) := by decide +kernel
theorem dX4_judge_79 : decode cX4_judge 79 = .ok (.getfield 11, 3) := by decide +kernel
theorem dX4_judge_82 : decode cX4_judge 82 = .ok (.iconst 2, 1) := by decide +kernel
theorem dX4_judge_83 : decode cX4_judge 83 = .ok (.iaload, 1) := by decide +kernel
theorem dX4_judge_84 : decode cX4_judge 84 = .ok (.invokestatic 63, 3) := by decide +kernel
theorem dX4_judge_87 : decode cX4_judge 87 = .ok (.if_icmp .eq 6, 3) := by decide +kernel
theorem dX4_judge_90 : decode cX4_judge 90 = .ok (.bipush 6, 2) := by decide +kernel
theorem dX4_judge_92 : decode cX4_judge 92 = .ok (.ireturn, 1) := by decide +kernel
theorem dX4_judge_93 : decode cX4_judge 93 = .ok (.aload_n 0, 1) := by decide +kernel
theorem dX4_judge_94 : decode cX4_judge 94 = .ok (.getfield 11, 3) := by decide +kernel
theorem dX4_judge_97 : decode cX4_judge 97 = .ok (.iconst 0, 1) := by decide +kernel
theorem dX4_judge_98 : decode cX4_judge 98 = .ok (.iaload, 1) := by decide +kernel
theorem dX4_judge_99 : decode cX4_judge 99 = .ok (.aload_n 0, 1) := by decide +kernel
theorem dX4_judge_100 : decode cX4_judge 100 = .ok (.getfield 35, 3) := by decide +kernel
theorem dX4_judge_103 : decode cX4_judge 103 = .ok (.if_icmp .eq 15, 3) := by decide +kernel
theorem dX4_judge_106 : decode cX4_judge 106 = .ok (.aload_n 0, 1) := by decide +kernel
theorem dX4_judge_107 : decode cX4_judge 107 = .ok (.getfield 11, 3) := by decide +kernel
theorem dX4_judge_110 : decode cX4_judge 110 = .ok (.iconst 0, 1) := by decide +kernel
theorem dX4_judge_111 : decode cX4_judge 111 = .ok (.iaload, 1) := by decide +kernel
theorem dX4_judge_112 : decode cX4_judge 112 = .ok (.sipush 255, 3) := by decide +kernel
theorem dX4_judge_115 : decode cX4_judge 115 = .ok (.if_icmp .ne 7, 3) := by decide +kernel
theorem dX4_judge_118 : decode cX4_judge 118 = .ok (.iconst 0, 1) := by decide +kernel
theorem dX4_judge_119 : decode cX4_judge 119 = .ok (.goto 5, 3) := by decide +kernel
theorem dX4_judge_122 : decode cX4_judge 122 = .ok (.bipush 7, 2) := by decide +kernel
theorem dX4_judge_124 : decode cX4_judge 124 = .ok (.ireturn, 1) := by decide +kernel
theorem dX4_checkRead_0 : decode cX4_checkRead 0 = .ok (.iconst 0, 1) := by decide +kernel
theorem dX4_checkRead_1 : decode cX4_checkRead 1 = .ok (.istore_n 2, 1) := by decide +kernel
theorem dX4_checkRead_2 : decode cX4_checkRead 2 = .ok (.iconst 3, 1) := by decide +kernel
theorem dX4_checkRead_3 : decode cX4_checkRead 3 = .ok (.istore_n 3, 1) := by decide +kernel
theorem dX4_checkRead_4 : decode cX4_checkRead 4 = .ok (.iload_n 3, 1) := by decide +kernel
theorem dX4_checkRead_5 : decode cX4_checkRead 5 = .ok (.ifCond .lt 23, 3) := by decide +kernel
theorem dX4_checkRead_8 : decode cX4_checkRead 8 = .ok (.iload_n 2, 1) := by decide +kernel
theorem dX4_checkRead_9 : decode cX4_checkRead 9 = .ok (.bipush 8, 2) := by decide +kernel
theorem dX4_checkRead_11 : decode cX4_checkRead 11 = .ok (.ishl, 1) := by decide +kernel
theorem dX4_checkRead_12 : decode cX4_checkRead 12 = .ok (.aload_n 0, 1) := by decide +kernel
theorem dX4_checkRead_13 : decode cX4_checkRead 13 = .ok (.getfield 11, 3) := by decide +kernel
theorem dX4_checkRead_16 : decode cX4_checkRead 16 = .ok (.iload_n 1, 1) := by decide +kernel
theorem dX4_checkRead_17 : decode cX4_checkRead 17 = .ok (.iload_n 3, 1) := by decide +kernel
theorem dX4_checkRead_18 : decode cX4_checkRead 18 = .ok (.iadd, 1) := by decide +kernel
theorem dX4_checkRead_19 : decode cX4_checkRead 19 = .ok (.iaload, 1) := by decide +kernel
theorem dX4_checkRead_20 : decode cX4_checkRead 20 = .ok (.ior, 1) := by decide +kernel
theorem dX4_checkRead_21 : decode cX4_checkRead 21 = .ok (.istore_n 2, 1) := by decide +kernel
theorem dX4_checkRead_22 : decode cX4_checkRead 22 = .ok (.iinc 3 (-1), 3) := by decide +kernel
theorem dX4_checkRead_25 : decode cX4_checkRead 25 = .ok (.goto (-21), 3) := by decide +kernel
theorem dX4_checkRead_28 : decode cX4_checkRead 28 = .ok (.iload_n 2, 1) := by decide +kernel
theorem dX4_checkRead_29 : decode cX4_checkRead 29 = .ok (.ireturn, 1) := by decide +kernel
theorem dX5_init_0 : decode cX5_init 0 = .ok (.aload_n 0, 1) := by decide +kernel
theorem dX5_init_1 : decode cX5_init 1 = .ok (.invokespecial 1, 3) := by decide +kernel
theorem dX5_init_4 : decode cX5_init 4 = .ok (.aload_n 0, 1) := by decide +kernel
theorem dX5_init_5 : decode cX5_init 5 = .ok (.iload_n 1, 1) := by decide +kernel
theorem dX5_init_6 : decode cX5_init 6 = .ok (.putfield 7, 3) := by decide +kernel
theorem dX5_init_9 : decode cX5_init 9 = .ok (.return_, 1) := by decide +kernel
theorem dX5_key_0 : decode cX5_key 0 = .ok (.aload_n 0, 1) := by decide +kernel
theorem dX5_key_1 : decode cX5_key 1 = .ok (.getfield 7, 3) := by decide +kernel
theorem dX5_key_4 : decode cX5_key 4 = .ok (.bipush 8, 2) := by decide +kernel
theorem dX5_key_6 : decode cX5_key 6 = .ok (.iushr, 1) := by decide +kernel
theorem dX5_key_7 : decode cX5_key 7 = .ok (.aload_n 0, 1) := by decide +kernel
theorem dX5_key_8 : decode cX5_key 8 = .ok (.getfield 7, 3) := by decide +kernel
theorem dX5_key_11 : decode cX5_key 11 = .ok (.bipush 10, 2) := by decide +kernel
theorem dX5_key_13 : decode cX5_key 13 = .ok (.iushr, 1) := by decide +kernel
theorem dX5_key_14 : decode cX5_key 14 = .ok (.ixor, 1) := by decide +kernel
theorem dX5_key_15 : decode cX5_key 15 = .ok (.iconst 1, 1) := by decide +kernel
theorem dX5_key_16 : decode cX5_key 16 = .ok (.iand, 1) := by decide +kernel
theorem dX5_key_17 : decode cX5_key 17 = .ok (.ireturn, 1) := by decide +kernel
theorem dX5_shiftIn_0 : decode cX5_shiftIn 0 = .ok (.aload_n 0, 1) := by decide +kernel
theorem dX5_shiftIn_1 : decode cX5_shiftIn 1 = .ok (.iconst 2, 1) := by decide +kernel
theorem dX5_shiftIn_2 : decode cX5_shiftIn 2 = .ok (.aload_n 0, 1) := by decide +kernel
theorem dX5_shiftIn_3 : decode cX5_shiftIn 3 = .ok (.getfield 7, 3) := by decide +kernel
theorem dX5_shiftIn_6 : decode cX5_shiftIn 6 = .ok (.imul, 1) := by decide +kernel
theorem dX5_shiftIn_7 : decode cX5_shiftIn 7 = .ok (.iload_n 1, 1) := by decide +kernel
theorem dX5_shiftIn_8 : decode cX5_shiftIn 8 = .ok (.iadd, 1) := by decide +kernel
theorem dX5_shiftIn_9 : decode cX5_shiftIn 9 = .ok (.sipush 2048, 3) := by decide +kernel
theorem dX5_shiftIn_12 : decode cX5_shiftIn 12 = .ok (.irem, 1) := by decide +kernel
theorem dX5_shiftIn_13 : decode cX5_shiftIn 13 = .ok (.putfield 7, 3) := by decide +kernel
theorem dX5_shiftIn_16 : decode cX5_shiftIn 16 = .ok (.return_, 1) := by decide +kernel
set_option maxRecDepth 20000 in
theorem ggX6_init_J9_floorMod_7cf53 : GoodIn wsX6_init wsJ9_floorMod_7cf53 := goodIn_r _ [24] (by decide +kernel) (by decide +kernel)
set_option maxRecDepth 20000 in
theorem gX6_init_J9_floorMod_7cf53 : GoodIn wsX6_init (va_wsS RX6 40 yJ9_floorMod_7cf53 wsJ9_floorMod_7cf53) := goodIn_app (goodIn_of _ (by decide +kernel)) ggX6_init_J9_floorMod_7cf53
set_option maxRecDepth 20000 in
theorem ggX6_init_X5_init : GoodIn wsX6_init wsX5_init := goodIn_r _ [27, 28, 2, 3, 29, 51] (by decide +kernel) (by decide +kernel)
set_option maxRecDepth 20000 in
theorem gX6_init_X5_init : GoodIn wsX6_init (wsX5_init) := ggX6_init_X5_init
set_option maxRecDepth 20000 in
theorem ggX6_init_X3_init : GoodIn wsX6_init wsX3_init := goodIn_r _ [32, 33, 2, 3, 4, 34, 35, 36, 37, 38, 39, 40, 52, 53, 54, 55, 56, 57] (by decide +kernel) (by decide +kernel)
set_option maxRecDepth 20000 in
theorem gX6_init_X3_init : GoodIn wsX6_init (wsX3_init) := ggX6_init_X3_init
theorem dX6_init_0 : decode cX6_init 0 = .ok (.aload_n 0, 1) := by decide +kernel
theorem dX6_init_1 : decode cX6_init 1 = .ok (.invokespecial 3, 3) := by decide +kernel
theorem dX6_init_4 : decode cX6_init 4 = .ok (.aload_n 0, 1) := by decide +kernel
theorem dX6_init_5 : decode cX6_init 5 = .ok (.bipush 70, 2) := by decide +kernel
theorem dX6_init_7 : decode cX6_init 7 = .ok (.newarray .int, 2) := by decide +kernel
theorem dX6_init_9 : decode cX6_init 9 = .ok (.putfield 11, 3) := by decide +kernel
theorem dX6_init_12 : decode cX6_init 12 = .ok (.aload_n 0, 1) := by decide +kernel
theorem dX6_init_13 : decode cX6_init 13 = .ok (.iconst 0, 1) := by decide +kernel
theorem dX6_init_14 : decode cX6_init 14 = .ok (.putfield 15, 3) := by decide +kernel
theorem dX6_init_17 : decode cX6_init 17 = .ok (.aload_n 0, 1) := by decide +kernel
theorem dX6_init_18 : decode cX6_init 18 = .ok (.iconst 0, 1) := by decide +kernel
theorem dX6_init_19 : decode cX6_init 19 = .ok (.putfield 19, 3) := by decide +kernel
theorem dX6_init_22 : decode cX6_init 22 = .ok (.aload_n 0, 1) := by decide +kernel
theorem dX6_init_23 : decode cX6_init 23 = .ok (.iconst 0, 1) := by decide +kernel
theorem dX6_init_24 : decode cX6_init 24 = .ok (.putfield 22, 3) := by decide +kernel
theorem dX6_init_27 : decode cX6_init 27 = .ok (.aload_n 0, 1) := by decide +kernel
theorem dX6_init_28 : decode cX6_init 28 = .ok (.iconst 0, 1) := by decide +kernel
theorem dX6_init_29 : decode cX6_init 29 = .ok (.putfield 26, 3) := by decide +kernel
theorem dX6_init_32 : decode cX6_init 32 = .ok (.aload_n 0, 1) := by decide +kernel
theorem dX6_init_33 : decode cX6_init 33 = .ok (.bipush 31, 2) := by decide +kernel
theorem dX6_init_35 : decode cX6_init 35 = .ok (.putfield 29, 3) := by decide +kernel
theorem dX6_init_38 : decode cX6_init 38 = .ok (.aload_n 0, 1) := by decide +kernel
theorem dX6_init_39 : decode cX6_init 39 = .ok (.iconst 0, 1) := by decide +kernel
theorem dX6_init_40 : decode cX6_init 40 = .ok (.putfield 32, 3) := by decide +kernel
theorem dX6_init_43 : decode cX6_init 43 = .ok (.aload_n 0, 1) := by decide +kernel
theorem dX6_init_44 : decode cX6_init 44 = .ok (.iconst 0, 1) := by decide +kernel
theorem dX6_init_45 : decode cX6_init 45 = .ok (.putfield 35, 3) := by decide +kernel
theorem dX6_init_48 : decode cX6_init 48 = .ok (.iload_n 1, 1) := by decide +kernel
theorem dX6_init_49 : decode cX6_init 49 = .ok (.sipush 2048, 3) := by decide +kernel
theorem dX6_init_52 : decode cX6_init 52 = .ok (.invokestatic 40, 3) := by decide +kernel
theorem dX6_init_55 : decode cX6_init 55 = .ok (.istore_n 3, 1) := by decide +kernel
theorem dX6_init_56 : decode cX6_init 56 = .ok (.aload_n 0, 1) := by decide +kernel
theorem dX6_init_57 : decode cX6_init 57 = .ok (.new 38, 3) := by decide +kernel
theorem dX6_init_60 : decode cX6_init 60 = .ok (.dup, 1) := by decide +kernel
theorem dX6_init_61 : decode cX6_init 61 = .ok (.iload_n 3, 1) := by decide +kernel
theorem dX6_init_62 : decode cX6_init 62 = .ok (.ifCond .ne 7, 3) := by decide +kernel
theorem dX6_init_65 : decode cX6_init 65 = .ok (.iconst 1, 1) := by decide +kernel
theorem dX6_init_66 : decode cX6_init 66 = .ok (.goto 4, 3) := by decide +kernel
theorem dX6_init_69 : decode cX6_init 69 = .ok (.iload_n 3, 1) := by decide +kernel
theorem dX6_init_70 : decode cX6_init 70 = .ok (.invokespecial 46, 3) := by decide +kernel
theorem dX6_init_73 : decode cX6_init 73 = .ok (.putfield 49, 3) := by decide +kernel
theorem dX6_init_76 : decode cX6_init 76 = .ok (.aload_n 0, 1) := by decide +kernel
theorem dX6_init_77 : decode cX6_init 77 = .ok (.new 53, 3) := by decide +kernel
theorem dX6_init_80 : decode cX6_init 80 = .ok (.dup, 1) := by decide +kernel
theorem dX6_init_81 : decode cX6_init 81 = .ok (.iload_n 2, 1) := by decide +kernel
theorem dX6_init_82 : decode cX6_init 82 = .ok (.invokespecial 55, 3) := by decide +kernel
theorem dX6_init_85 : decode cX6_init 85 = .ok (.putfield 56, 3) := by decide +kernel
theorem dX6_init_88 : decode cX6_init 88 = .ok (.return_, 1) := by decide +kernel
theorem dX6_lineLevel_0 : decode cX6_lineLevel 0 = .ok (.getstatic 60, 3) := by decide +kernel
theorem dX6_lineLevel_3 : decode cX6_lineLevel 3 = .ok (.aload_n 0, 1) := by decide +kernel
theorem dX6_lineLevel_4 : decode cX6_lineLevel 4 = .ok (.getfield 35, 3) := by decide +kernel
theorem dX6_lineLevel_7 : decode cX6_lineLevel 7 = .ok (.iaload, 1) := by decide +kernel
theorem dX6_lineLevel_8 : decode cX6_lineLevel 8 = .ok (.ireturn, 1) := by decide +kernel
set_option maxRecDepth 20000 in
theorem ggX6_sendBit_X6_chooseGroup : GoodIn wsX6_sendBit wsX6_chooseGroup := goodIn_r _ [9, 10, 11, 12, 13, 14, 2, 1, 15, 16, 17, 18, 19, 20, 21, 22, 23, 24, 25, 8, 26, 27, 28, 29, 30, 31, 32, 33, 34, 35, 36, 37, 38, 56, 57, 58, 59, 60, 61, 62, 63, 64, 65, 66, 67, 68, 69, 70, 71] (by decide +kernel) (by decide +kernel)
set_option maxRecDepth 20000 in
theorem gX6_sendBit_X6_chooseGroup : GoodIn wsX6_sendBit (wsV RX6 63 RX6 yX6_chooseGroup wsX6_chooseGroup) := goodIn_app (goodIn_of _ (by decide +kernel)) ggX6_sendBit_X6_chooseGroup
set_option maxRecDepth 20000 in
theorem ggX6_sendBit_X5_key : GoodIn wsX6_sendBit wsX5_key := goodIn_r _ [43, 44, 72] (by decide +kernel) (by decide +kernel)
set_option maxRecDepth 20000 in
theorem gX6_sendBit_X5_key : GoodIn wsX6_sendBit (wsV RX6 66 RX5 yX5_key wsX5_key) := goodIn_app (goodIn_of _ (by decide +kernel)) ggX6_sendBit_X5_key
set_option maxRecDepth 20000 in
theorem ggX6_sendBit_X5_shiftIn : GoodIn wsX6_sendBit wsX5_shiftIn := goodIn_r _ [48, 44, 72] (by decide +kernel) (by decide +kernel)
set_option maxRecDepth 20000 in
theorem gX6_sendBit_X5_shiftIn : GoodIn wsX6_sendBit (wsV RX6 70 RX5 yX5_shiftIn wsX5_shiftIn) := goodIn_app (goodIn_of _ (by decide +kernel)) ggX6_sendBit_X5_shiftIn
set_option maxRecDepth 20000 in
theorem ggX6_sendBit_X6_noteGroupSent : GoodIn wsX6_sendBit wsX6_noteGroupSent := goodIn_r _ [52, 10, 11, 53, 54, 37, 55, 13, 27, 56, 57, 58, 59, 60, 61, 62, 63, 64, 65] (by decide +kernel) (by decide +kernel)
set_option maxRecDepth 20000 in
theorem gX6_sendBit_X6_noteGroupSent : GoodIn wsX6_sendBit (wsV RX6 73 RX6 yX6_noteGroupSent wsX6_noteGroupSent) := goodIn_app (goodIn_of _ (by decide +kernel)) ggX6_sendBit_X6_noteGroupSent
theorem dX6_sendBit_0 : decode cX6_sendBit 0 = .ok (.aload_n 0, 1) := by decide +kernel
theorem dX6_sendBit_1 : decode cX6_sendBit 1 = .ok (.getfield 32, 3) := by decide +kernel
theorem dX6_sendBit_4 : decode cX6_sendBit 4 = .ok (.ifCond .ne 7, 3) := by decide +kernel
theorem dX6_sendBit_7 : decode cX6_sendBit 7 = .ok (.aload_n 0, 1) := by decide +kernel
theorem dX6_sendBit_8 : decode cX6_sendBit 8 = .ok (.invokevirtual 63, 3) := by decide +kernel
theorem dX6_sendBit_11 : decode cX6_sendBit 11 = .ok (.aload_n 0, 1) := by decide +kernel
theorem dX6_sendBit_12 : decode cX6_sendBit 12 = .ok (.dup, 1) := by decide +kernel
theorem dX6_sendBit_13 : decode cX6_sendBit 13 = .ok (.getfield 32, 3) := by decide +kernel
theorem dX6_sendBit_16 : decode cX6_sendBit 16 = .ok (.iconst 1, 1) := by decide +kernel
theorem dX6_sendBit_17 : decode cX6_sendBit 17 = .ok (.isub, 1) := by decide +kernel
theorem dX6_sendBit_18 : decode cX6_sendBit 18 = .ok (.putfield 32, 3) := by decide +kernel
theorem dX6_sendBit_21 : decode cX6_sendBit 21 = .ok (.aload_n 0, 1) := by decide +kernel
theorem dX6_sendBit_22 : decode cX6_sendBit 22 = .ok (.getfield 29, 3) := by decide +kernel
theorem dX6_sendBit_25 : decode cX6_sendBit 25 = .ok (.aload_n 0, 1) := by decide +kernel
theorem dX6_sendBit_26 : decode cX6_sendBit 26 = .ok (.getfield 32, 3) := by decide +kernel
theorem dX6_sendBit_29 : decode cX6_sendBit 29 = .ok (.iushr, 1) := by decide +kernel
theorem dX6_sendBit_30 : decode cX6_sendBit 30 = .ok (.iconst 1, 1) := by decide +kernel
theorem dX6_sendBit_31 : decode cX6_sendBit 31 = .ok (.iand, 1) := by decide +kernel
theorem dX6_sendBit_32 : decode cX6_sendBit 32 = .ok (.istore_n 1, 1) := by decide +kernel
theorem dX6_sendBit_33 : decode cX6_sendBit 33 = .ok (.aload_n 0, 1) := by decide +kernel
theorem dX6_sendBit_34 : decode cX6_sendBit 34 = .ok (.getfield 49, 3) := by decide +kernel
theorem dX6_sendBit_37 : decode cX6_sendBit 37 = .ok (.invokevirtual 66, 3) := by decide +kernel
theorem dX6_sendBit_40 : decode cX6_sendBit 40 = .ok (.istore_n 2, 1) := by decide +kernel
theorem dX6_sendBit_41 : decode cX6_sendBit 41 = .ok (.aload_n 0, 1) := by decide +kernel
theorem dX6_sendBit_42 : decode cX6_sendBit 42 = .ok (.getfield 49, 3) := by decide +kernel
theorem dX6_sendBit_45 : decode cX6_sendBit 45 = .ok (.iload_n 2, 1) := by decide +kernel
theorem dX6_sendBit_46 : decode cX6_sendBit 46 = .ok (.invokevirtual 70, 3) := by decide +kernel
theorem dX6_sendBit_49 : decode cX6_sendBit 49 = .ok (.aload_n 0, 1) := by decide +kernel
theorem dX6_sendBit_50 : decode cX6_sendBit 50 = .ok (.aload_n 0, 1) := by decide +kernel
theorem dX6_sendBit_51 : decode cX6_sendBit 51 = .ok (.getfield 35, 3) := by decide +kernel
