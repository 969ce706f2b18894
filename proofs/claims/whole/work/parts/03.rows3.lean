theorem dX6_sendBit_54 : decode cX6_sendBit 54 = .ok (.iload_n 1, 1) := by decide +kernel
theorem dX6_sendBit_55 : decode cX6_sendBit 55 = .ok (.iload_n 2, 1) := by decide +kernel
theorem dX6_sendBit_56 : decode cX6_sendBit 56 = .ok (.ixor, 1) := by decide +kernel
theorem dX6_sendBit_57 : decode cX6_sendBit 57 = .ok (.iadd, 1) := by decide +kernel
theorem dX6_sendBit_58 : decode cX6_sendBit 58 = .ok (.iconst 4, 1) := by decide +kernel
theorem dX6_sendBit_59 : decode cX6_sendBit 59 = .ok (.irem, 1) := by decide +kernel
theorem dX6_sendBit_60 : decode cX6_sendBit 60 = .ok (.putfield 35, 3) := by decide +kernel
theorem dX6_sendBit_63 : decode cX6_sendBit 63 = .ok (.aload_n 0, 1) := by decide +kernel
theorem dX6_sendBit_64 : decode cX6_sendBit 64 = .ok (.getfield 32, 3) := by decide +kernel
theorem dX6_sendBit_67 : decode cX6_sendBit 67 = .ok (.ifCond .ne 7, 3) := by decide +kernel
theorem dX6_sendBit_70 : decode cX6_sendBit 70 = .ok (.aload_n 0, 1) := by decide +kernel
theorem dX6_sendBit_71 : decode cX6_sendBit 71 = .ok (.invokevirtual 73, 3) := by decide +kernel
theorem dX6_sendBit_74 : decode cX6_sendBit 74 = .ok (.return_, 1) := by decide +kernel
set_option maxRecDepth 20000 in
theorem ggX6_chooseGroup_X3_takeFirst : GoodIn wsX6_chooseGroup wsX3_takeFirst := goodIn_r _ [12, 13, 14, 15, 43, 44, 45, 46, 47, 48] (by decide +kernel) (by decide +kernel)
set_option maxRecDepth 20000 in
theorem gX6_chooseGroup_X3_takeFirst : GoodIn wsX6_chooseGroup (wsV RX6 79 RX3 yX3_takeFirst wsX3_takeFirst) := goodIn_app (goodIn_of _ (by decide +kernel)) ggX6_chooseGroup_X3_takeFirst
set_option maxRecDepth 20000 in
theorem ggX6_chooseGroup_X6_beginFrame : GoodIn wsX6_chooseGroup wsX6_beginFrame := goodIn_r _ [20, 1, 4, 21, 22, 23, 24, 19, 25, 5, 26, 27, 28, 29, 30, 31, 32, 33, 34, 35, 36, 37, 38, 39, 40, 41, 42] (by decide +kernel) (by decide +kernel)
set_option maxRecDepth 20000 in
theorem gX6_chooseGroup_X6_beginFrame : GoodIn wsX6_chooseGroup (wsV RX6 83 RX6 yX6_beginFrame wsX6_beginFrame) := goodIn_app (goodIn_of _ (by decide +kernel)) ggX6_chooseGroup_X6_beginFrame
theorem dX6_chooseGroup_0 : decode cX6_chooseGroup 0 = .ok (.aload_n 0, 1) := by decide +kernel
theorem dX6_chooseGroup_1 : decode cX6_chooseGroup 1 = .ok (.getfield 22, 3) := by decide +kernel
theorem dX6_chooseGroup_4 : decode cX6_chooseGroup 4 = .ok (.ifCond .ne 33, 3) := by decide +kernel
theorem dX6_chooseGroup_7 : decode cX6_chooseGroup 7 = .ok (.aload_n 0, 1) := by decide +kernel
theorem dX6_chooseGroup_8 : decode cX6_chooseGroup 8 = .ok (.getfield 26, 3) := by decide +kernel
theorem dX6_chooseGroup_11 : decode cX6_chooseGroup 11 = .ok (.bipush 6, 2) := by decide +kernel
theorem dX6_chooseGroup_13 : decode cX6_chooseGroup 13 = .ok (.if_icmp .lt 24, 3) := by decide +kernel
theorem dX6_chooseGroup_16 : decode cX6_chooseGroup 16 = .ok (.aload_n 0, 1) := by decide +kernel
theorem dX6_chooseGroup_17 : decode cX6_chooseGroup 17 = .ok (.getfield 56, 3) := by decide +kernel
theorem dX6_chooseGroup_20 : decode cX6_chooseGroup 20 = .ok (.getfield 76, 3) := by decide +kernel
theorem dX6_chooseGroup_23 : decode cX6_chooseGroup 23 = .ok (.ifCond .le 14, 3) := by decide +kernel
theorem dX6_chooseGroup_26 : decode cX6_chooseGroup 26 = .ok (.aload_n 0, 1) := by decide +kernel
theorem dX6_chooseGroup_27 : decode cX6_chooseGroup 27 = .ok (.aload_n 0, 1) := by decide +kernel
theorem dX6_chooseGroup_28 : decode cX6_chooseGroup 28 = .ok (.getfield 56, 3) := by decide +kernel
theorem dX6_chooseGroup_31 : decode cX6_chooseGroup 31 = .ok (.invokevirtual 79, 3) := by decide +kernel
theorem dX6_chooseGroup_34 : decode cX6_chooseGroup 34 = .ok (.invokevirtual 83, 3) := by decide +kernel
theorem dX6_chooseGroup_37 : decode cX6_chooseGroup 37 = .ok (.aload_n 0, 1) := by decide +kernel
theorem dX6_chooseGroup_38 : decode cX6_chooseGroup 38 = .ok (.aload_n 0, 1) := by decide +kernel
theorem dX6_chooseGroup_39 : decode cX6_chooseGroup 39 = .ok (.getfield 22, 3) := by decide +kernel
theorem dX6_chooseGroup_42 : decode cX6_chooseGroup 42 = .ok (.ifCond .eq 24, 3) := by decide +kernel
theorem dX6_chooseGroup_45 : decode cX6_chooseGroup 45 = .ok (.aload_n 0, 1) := by decide +kernel
theorem dX6_chooseGroup_46 : decode cX6_chooseGroup 46 = .ok (.getfield 19, 3) := by decide +kernel
theorem dX6_chooseGroup_49 : decode cX6_chooseGroup 49 = .ok (.bipush 70, 2) := by decide +kernel
theorem dX6_chooseGroup_51 : decode cX6_chooseGroup 51 = .ok (.if_icmp .ge 15, 3) := by decide +kernel
theorem dX6_chooseGroup_54 : decode cX6_chooseGroup 54 = .ok (.aload_n 0, 1) := by decide +kernel
theorem dX6_chooseGroup_55 : decode cX6_chooseGroup 55 = .ok (.getfield 11, 3) := by decide +kernel
theorem dX6_chooseGroup_58 : decode cX6_chooseGroup 58 = .ok (.aload_n 0, 1) := by decide +kernel
theorem dX6_chooseGroup_59 : decode cX6_chooseGroup 59 = .ok (.getfield 19, 3) := by decide +kernel
theorem dX6_chooseGroup_62 : decode cX6_chooseGroup 62 = .ok (.iaload, 1) := by decide +kernel
theorem dX6_chooseGroup_63 : decode cX6_chooseGroup 63 = .ok (.goto 5, 3) := by decide +kernel
theorem dX6_chooseGroup_66 : decode cX6_chooseGroup 66 = .ok (.bipush 31, 2) := by decide +kernel
theorem dX6_chooseGroup_68 : decode cX6_chooseGroup 68 = .ok (.putfield 29, 3) := by decide +kernel
theorem dX6_chooseGroup_71 : decode cX6_chooseGroup 71 = .ok (.aload_n 0, 1) := by decide +kernel
theorem dX6_chooseGroup_72 : decode cX6_chooseGroup 72 = .ok (.iconst 5, 1) := by decide +kernel
theorem dX6_chooseGroup_73 : decode cX6_chooseGroup 73 = .ok (.putfield 32, 3) := by decide +kernel
theorem dX6_chooseGroup_76 : decode cX6_chooseGroup 76 = .ok (.return_, 1) := by decide +kernel
theorem dX6_noteGroupSent_0 : decode cX6_noteGroupSent 0 = .ok (.aload_n 0, 1) := by decide +kernel
theorem dX6_noteGroupSent_1 : decode cX6_noteGroupSent 1 = .ok (.getfield 22, 3) := by decide +kernel
theorem dX6_noteGroupSent_4 : decode cX6_noteGroupSent 4 = .ok (.ifCond .ne 19, 3) := by decide +kernel
theorem dX6_noteGroupSent_7 : decode cX6_noteGroupSent 7 = .ok (.aload_n 0, 1) := by decide +kernel
theorem dX6_noteGroupSent_8 : decode cX6_noteGroupSent 8 = .ok (.aload_n 0, 1) := by decide +kernel
theorem dX6_noteGroupSent_9 : decode cX6_noteGroupSent 9 = .ok (.getfield 26, 3) := by decide +kernel
theorem dX6_noteGroupSent_12 : decode cX6_noteGroupSent 12 = .ok (.iconst 1, 1) := by decide +kernel
theorem dX6_noteGroupSent_13 : decode cX6_noteGroupSent 13 = .ok (.iadd, 1) := by decide +kernel
theorem dX6_noteGroupSent_14 : decode cX6_noteGroupSent 14 = .ok (.bipush 6, 2) := by decide +kernel
theorem dX6_noteGroupSent_16 : decode cX6_noteGroupSent 16 = .ok (.invokestatic 87, 3) := by decide +kernel
theorem dX6_noteGroupSent_19 : decode cX6_noteGroupSent 19 = .ok (.putfield 26, 3) := by decide +kernel
theorem dX6_noteGroupSent_22 : decode cX6_noteGroupSent 22 = .ok (.return_, 1) := by decide +kernel
theorem dX6_noteGroupSent_23 : decode cX6_noteGroupSent 23 = .ok (.aload_n 0, 1) := by decide +kernel
theorem dX6_noteGroupSent_24 : decode cX6_noteGroupSent 24 = .ok (.dup, 1) := by decide +kernel
theorem dX6_noteGroupSent_25 : decode cX6_noteGroupSent 25 = .ok (.getfield 19, 3) := by decide +kernel
theorem dX6_noteGroupSent_28 : decode cX6_noteGroupSent 28 = .ok (.iconst 1, 1) := by decide +kernel
theorem dX6_noteGroupSent_29 : decode cX6_noteGroupSent 29 = .ok (.iadd, 1) := by decide +kernel
theorem dX6_noteGroupSent_30 : decode cX6_noteGroupSent 30 = .ok (.putfield 19, 3) := by decide +kernel
theorem dX6_noteGroupSent_33 : decode cX6_noteGroupSent 33 = .ok (.aload_n 0, 1) := by decide +kernel
theorem dX6_noteGroupSent_34 : decode cX6_noteGroupSent 34 = .ok (.getfield 19, 3) := by decide +kernel
theorem dX6_noteGroupSent_37 : decode cX6_noteGroupSent 37 = .ok (.aload_n 0, 1) := by decide +kernel
theorem dX6_noteGroupSent_38 : decode cX6_noteGroupSent 38 = .ok (.getfield 15, 3) := by decide +kernel
theorem dX6_noteGroupSent_41 : decode cX6_noteGroupSent 41 = .ok (.if_icmp .lt 13, 3) := by decide +kernel
theorem dX6_noteGroupSent_44 : decode cX6_noteGroupSent 44 = .ok (.aload_n 0, 1) := by decide +kernel
theorem dX6_noteGroupSent_45 : decode cX6_noteGroupSent 45 = .ok (.iconst 0, 1) := by decide +kernel
theorem dX6_noteGroupSent_46 : decode cX6_noteGroupSent 46 = .ok (.putfield 22, 3) := by decide +kernel
theorem dX6_noteGroupSent_49 : decode cX6_noteGroupSent 49 = .ok (.aload_n 0, 1) := by decide +kernel
theorem dX6_noteGroupSent_50 : decode cX6_noteGroupSent 50 = .ok (.iconst 0, 1) := by decide +kernel
theorem dX6_noteGroupSent_51 : decode cX6_noteGroupSent 51 = .ok (.putfield 26, 3) := by decide +kernel
theorem dX6_noteGroupSent_54 : decode cX6_noteGroupSent 54 = .ok (.return_, 1) := by decide +kernel
set_option maxRecDepth 20000 in
theorem ggX6_beginFrame_X6_addGroup : GoodIn wsX6_beginFrame wsX6_addGroup := goodIn_r _ [8, 3, 9, 17, 18, 19, 20, 21, 22, 23, 24, 25, 26] (by decide +kernel) (by decide +kernel)
set_option maxRecDepth 20000 in
theorem gX6_beginFrame_X6_addGroup : GoodIn wsX6_beginFrame (wsV RX6 90 RX6 yX6_addGroup wsX6_addGroup) := goodIn_app (goodIn_of _ (by decide +kernel)) ggX6_beginFrame_X6_addGroup
set_option maxRecDepth 20000 in
theorem ggX6_beginFrame_X7_frameSize : GoodIn wsX6_beginFrame wsX7_frameSize := goodIn_r _ [12, 13, 14, 15, 16] (by decide +kernel) (by decide +kernel)
set_option maxRecDepth 20000 in
theorem gX6_beginFrame_X7_frameSize_n96 : GoodIn wsX6_beginFrame (wsX7_frameSize) := ggX6_beginFrame_X7_frameSize
theorem dX6_beginFrame_0 : decode cX6_beginFrame 0 = .ok (.aload_n 0, 1) := by decide +kernel
theorem dX6_beginFrame_1 : decode cX6_beginFrame 1 = .ok (.iconst 1, 1) := by decide +kernel
theorem dX6_beginFrame_2 : decode cX6_beginFrame 2 = .ok (.putfield 22, 3) := by decide +kernel
theorem dX6_beginFrame_5 : decode cX6_beginFrame 5 = .ok (.aload_n 0, 1) := by decide +kernel
theorem dX6_beginFrame_6 : decode cX6_beginFrame 6 = .ok (.iconst 0, 1) := by decide +kernel
theorem dX6_beginFrame_7 : decode cX6_beginFrame 7 = .ok (.putfield 19, 3) := by decide +kernel
theorem dX6_beginFrame_10 : decode cX6_beginFrame 10 = .ok (.aload_n 0, 1) := by decide +kernel
theorem dX6_beginFrame_11 : decode cX6_beginFrame 11 = .ok (.iconst 0, 1) := by decide +kernel
theorem dX6_beginFrame_12 : decode cX6_beginFrame 12 = .ok (.putfield 15, 3) := by decide +kernel
theorem dX6_beginFrame_15 : decode cX6_beginFrame 15 = .ok (.aload_n 0, 1) := by decide +kernel
theorem dX6_beginFrame_16 : decode cX6_beginFrame 16 = .ok (.bipush 24, 2) := by decide +kernel
theorem dX6_beginFrame_18 : decode cX6_beginFrame 18 = .ok (.invokevirtual 90, 3) := by decide +kernel
theorem dX6_beginFrame_21 : decode cX6_beginFrame 21 = .ok (.aload_n 0, 1) := by decide +kernel
theorem dX6_beginFrame_22 : decode cX6_beginFrame 22 = .ok (.bipush 17, 2) := by decide +kernel
theorem dX6_beginFrame_24 : decode cX6_beginFrame 24 = .ok (.invokevirtual 90, 3) := by decide +kernel
theorem dX6_beginFrame_27 : decode cX6_beginFrame 27 = .ok (.iconst 0, 1) := by decide +kernel
theorem dX6_beginFrame_28 : decode cX6_beginFrame 28 = .ok (.istore_n 2, 1) := by decide +kernel
theorem dX6_beginFrame_29 : decode cX6_beginFrame 29 = .ok (.iload_n 2, 1) := by decide +kernel
theorem dX6_beginFrame_30 : decode cX6_beginFrame 30 = .ok (.iconst 3, 1) := by decide +kernel
theorem dX6_beginFrame_31 : decode cX6_beginFrame 31 = .ok (.if_icmp .ge 18, 3) := by decide +kernel
theorem dX6_beginFrame_34 : decode cX6_beginFrame 34 = .ok (.aload_n 0, 1) := by decide +kernel
theorem dX6_beginFrame_35 : decode cX6_beginFrame 35 = .ok (.getstatic 93, 3) := by decide +kernel
theorem dX6_beginFrame_38 : decode cX6_beginFrame 38 = .ok (.iconst 5, 1) := by decide +kernel
theorem dX6_beginFrame_39 : decode cX6_beginFrame 39 = .ok (.iaload, 1) := by decide +kernel
theorem dX6_beginFrame_40 : decode cX6_beginFrame 40 = .ok (.invokevirtual 90, 3) := by decide +kernel
theorem dX6_beginFrame_43 : decode cX6_beginFrame 43 = .ok (.iinc 2 1, 3) := by decide +kernel
theorem dX6_beginFrame_46 : decode cX6_beginFrame 46 = .ok (.goto (-17), 3) := by decide +kernel
theorem dX6_beginFrame_49 : decode cX6_beginFrame 49 = .ok (.aload_n 0, 1) := by decide +kernel
theorem dX6_beginFrame_50 : decode cX6_beginFrame 50 = .ok (.getstatic 93, 3) := by decide +kernel
theorem dX6_beginFrame_53 : decode cX6_beginFrame 53 = .ok (.bipush 13, 2) := by decide +kernel
theorem dX6_beginFrame_55 : decode cX6_beginFrame 55 = .ok (.iaload, 1) := by decide +kernel
theorem dX6_beginFrame_56 : decode cX6_beginFrame 56 = .ok (.invokevirtual 90, 3) := by decide +kernel
theorem dX6_beginFrame_59 : decode cX6_beginFrame 59 = .ok (.aload_n 1, 1) := by decide +kernel
theorem dX6_beginFrame_60 : decode cX6_beginFrame 60 = .ok (.iconst 2, 1) := by decide +kernel
theorem dX6_beginFrame_61 : decode cX6_beginFrame 61 = .ok (.iaload, 1) := by decide +kernel
theorem dX6_beginFrame_62 : decode cX6_beginFrame 62 = .ok (.invokestatic 96, 3) := by decide +kernel
theorem dX6_beginFrame_65 : decode cX6_beginFrame 65 = .ok (.istore_n 2, 1) := by decide +kernel
theorem dX6_beginFrame_66 : decode cX6_beginFrame 66 = .ok (.iconst 0, 1) := by decide +kernel
theorem dX6_beginFrame_67 : decode cX6_beginFrame 67 = .ok (.istore_n 3, 1) := by decide +kernel
theorem dX6_beginFrame_68 : decode cX6_beginFrame 68 = .ok (.iload_n 3, 1) := by decide +kernel
theorem dX6_beginFrame_69 : decode cX6_beginFrame 69 = .ok (.iload_n 2, 1) := by decide +kernel
theorem dX6_beginFrame_70 : decode cX6_beginFrame 70 = .ok (.if_icmp .ge 45, 3) := by decide +kernel
theorem dX6_beginFrame_73 : decode cX6_beginFrame 73 = .ok (.iload_n 3, 1) := by decide +kernel
theorem dX6_beginFrame_74 : decode cX6_beginFrame 74 = .ok (.aload_n 1, 1) := by decide +kernel
theorem dX6_beginFrame_75 : decode cX6_beginFrame 75 = .ok (.arraylength, 1) := by decide +kernel
theorem dX6_beginFrame_76 : decode cX6_beginFrame 76 = .ok (.if_icmp .ge 39, 3) := by decide +kernel
theorem dX6_beginFrame_79 : decode cX6_beginFrame 79 = .ok (.aload_n 0, 1) := by decide +kernel
theorem dX6_beginFrame_80 : decode cX6_beginFrame 80 = .ok (.getstatic 93, 3) := by decide +kernel
theorem dX6_beginFrame_83 : decode cX6_beginFrame 83 = .ok (.aload_n 1, 1) := by decide +kernel
theorem dX6_beginFrame_84 : decode cX6_beginFrame 84 = .ok (.iload_n 3, 1) := by decide +kernel
theorem dX6_beginFrame_85 : decode cX6_beginFrame 85 = .ok (.iaload, 1) := by decide +kernel
theorem dX6_beginFrame_86 : decode cX6_beginFrame 86 = .ok (.bipush 15, 2) := by decide +kernel
theorem dX6_beginFrame_88 : decode cX6_beginFrame 88 = .ok (.iand, 1) := by decide +kernel
theorem dX6_beginFrame_89 : decode cX6_beginFrame 89 = .ok (.iaload, 1) := by decide +kernel
theorem dX6_beginFrame_90 : decode cX6_beginFrame 90 = .ok (.invokevirtual 90, 3) := by decide +kernel
theorem dX6_beginFrame_93 : decode cX6_beginFrame 93 = .ok (.aload_n 0, 1) := by decide +kernel
theorem dX6_beginFrame_94 : decode cX6_beginFrame 94 = .ok (.getstatic 93, 3) := by decide +kernel
theorem dX6_beginFrame_97 : decode cX6_beginFrame 97 = .ok (.aload_n 1, 1) := by decide +kernel
theorem dX6_beginFrame_98 : decode cX6_beginFrame 98 = .ok (.iload_n 3, 1) := by decide +kernel
theorem dX6_beginFrame_99 : decode cX6_beginFrame 99 = .ok (.iaload, 1) := by decide +kernel
theorem dX6_beginFrame_100 : decode cX6_beginFrame 100 = .ok (.iconst 4, 1) := by decide +kernel
theorem dX6_beginFrame_101 : decode cX6_beginFrame 101 = .ok (.iushr, 1) := by decide +kernel
theorem dX6_beginFrame_102 : decode cX6_beginFrame 102 = .ok (.bipush 15, 2) := by decide +kernel
theorem dX6_beginFrame_104 : decode cX6_beginFrame 104 = .ok (.iand, 1) := by decide +kernel
theorem dX6_beginFrame_105 : decode cX6_beginFrame 105 = .ok (.iaload, 1) := by decide +kernel
theorem dX6_beginFrame_106 : decode cX6_beginFrame 106 = .ok (.invokevirtual 90, 3) := by decide +kernel
theorem dX6_beginFrame_109 : decode cX6_beginFrame 109 = .ok (.iinc 3 1, 3) := by decide +kernel
theorem dX6_beginFrame_112 : decode cX6_beginFrame 112 = .ok (.goto (-44), 3) := by decide +kernel
theorem dX6_beginFrame_115 : decode cX6_beginFrame 115 = .ok (.aload_n 0, 1) := by decide +kernel
theorem dX6_beginFrame_116 : decode cX6_beginFrame 116 = .ok (.bipush 13, 2) := by decide +kernel
theorem dX6_beginFrame_118 : decode cX6_beginFrame 118 = .ok (.invokevirtual 90, 3) := by decide +kernel
theorem dX6_beginFrame_121 : decode cX6_beginFrame 121 = .ok (.aload_n 0, 1) := by decide +kernel
theorem dX6_beginFrame_122 : decode cX6_beginFrame 122 = .ok (.bipush 7, 2) := by decide +kernel
theorem dX6_beginFrame_124 : decode cX6_beginFrame 124 = .ok (.invokevirtual 90, 3) := by decide +kernel
theorem dX6_beginFrame_127 : decode cX6_beginFrame 127 = .ok (.return_, 1) := by decide +kernel
theorem dX6_addGroup_0 : decode cX6_addGroup 0 = .ok (.aload_n 0, 1) := by decide +kernel
theorem dX6_addGroup_1 : decode cX6_addGroup 1 = .ok (.getfield 15, 3) := by decide +kernel
theorem dX6_addGroup_4 : decode cX6_addGroup 4 = .ok (.bipush 70, 2) := by decide +kernel
theorem dX6_addGroup_6 : decode cX6_addGroup 6 = .ok (.if_icmp .ge 23, 3) := by decide +kernel
theorem dX6_addGroup_9 : decode cX6_addGroup 9 = .ok (.aload_n 0, 1) := by decide +kernel
theorem dX6_addGroup_10 : decode cX6_addGroup 10 = .ok (.getfield 11, 3) := by decide +kernel
theorem dX6_addGroup_13 : decode cX6_addGroup 13 = .ok (.aload_n 0, 1) := by decide +kernel
theorem dX6_addGroup_14 : decode cX6_addGroup 14 = .ok (.getfield 15, 3) := by decide +kernel
theorem dX6_addGroup_17 : decode cX6_addGroup 17 = .ok (.iload_n 1, 1) := by decide +kernel
theorem dX6_addGroup_18 : decode cX6_addGroup 18 = .ok (.iastore, 1) := by decide +kernel
theorem dX6_addGroup_19 : decode cX6_addGroup 19 = .ok (.aload_n 0, 1) := by decide +kernel
theorem dX6_addGroup_20 : decode cX6_addGroup 20 = .ok (.dup, 1) := by decide +kernel
theorem dX6_addGroup_21 : decode cX6_addGroup 21 = .ok (.getfield 15, 3) := by decide +kernel
theorem dX6_addGroup_24 : decode cX6_addGroup 24 = .ok (.iconst 1, 1) := by decide +kernel
theorem dX6_addGroup_25 : decode cX6_addGroup 25 = .ok (.iadd, 1) := by decide +kernel
theorem dX6_addGroup_26 : decode cX6_addGroup 26 = .ok (.putfield 15, 3) := by decide +kernel
theorem dX6_addGroup_29 : decode cX6_addGroup 29 = .ok (.return_, 1) := by decide +kernel
set_option maxRecDepth 20000 in
theorem ggX7_init_J9_floorMod_7cf53 : GoodIn wsX7_init wsJ9_floorMod_7cf53 := goodIn_r _ [19] (by decide +kernel) (by decide +kernel)
set_option maxRecDepth 20000 in
theorem gX7_init_J9_floorMod_7cf53 : GoodIn wsX7_init (va_wsS RX7 11 yJ9_floorMod_7cf53 wsJ9_floorMod_7cf53) := goodIn_app (goodIn_of _ (by decide +kernel)) ggX7_init_J9_floorMod_7cf53
set_option maxRecDepth 20000 in
theorem ggX7_init_X6_init : GoodIn wsX7_init wsX6_init := goodIn_r _ [22, 23, 2, 3, 24, 25, 26, 27, 28, 29, 30, 31, 32, 33, 34, 35, 36, 37, 38, 39, 40, 41, 17, 18, 19, 42, 43, 44, 45, 46, 47, 48, 49, 50, 51, 52, 53, 54, 55, 56, 57, 108, 109, 110, 111, 112, 113, 114, 115, 116, 117, 132, 133, 134, 135, 136, 137, 138] (by decide +kernel) (by decide +kernel)
set_option maxRecDepth 20000 in
theorem gX7_init_X6_init : GoodIn wsX7_init (wsX6_init) := ggX7_init_X6_init
set_option maxRecDepth 20000 in
theorem ggX7_init_X0_init : GoodIn wsX7_init wsX0_init := goodIn_r _ [60, 61, 2, 3, 24, 62, 63, 64, 65, 66, 67, 121, 122] (by decide +kernel) (by decide +kernel)
set_option maxRecDepth 20000 in
theorem gX7_init_X0_init : GoodIn wsX7_init (wsX0_init) := ggX7_init_X0_init
set_option maxRecDepth 20000 in
theorem ggX7_init_X2_init : GoodIn wsX7_init wsX2_init := goodIn_r _ [70, 71, 2, 3, 72, 34, 35, 73, 74, 75, 76, 77, 78, 79, 80, 81, 82, 83, 84, 85, 86, 87, 88, 43, 44, 45, 46, 89, 90, 91, 24, 92, 93, 94, 95, 96, 97, 98, 99, 100, 101, 102, 103, 104, 105, 106, 107, 132, 123, 124, 125, 126, 127, 128, 129, 130, 131, 139, 140, 141, 142, 143, 144, 145, 146, 147, 148, 149, 150] (by decide +kernel) (by decide +kernel)
set_option maxRecDepth 20000 in
theorem gX7_init_X2_init : GoodIn wsX7_init (wsX2_init) := ggX7_init_X2_init
theorem dX7_init_0 : decode cX7_init 0 = .ok (.aload_n 0, 1) := by decide +kernel
theorem dX7_init_1 : decode cX7_init 1 = .ok (.invokespecial 3, 3) := by decide +kernel
theorem dX7_init_4 : decode cX7_init 4 = .ok (.aload_n 0, 1) := by decide +kernel
theorem dX7_init_5 : decode cX7_init 5 = .ok (.new 9, 3) := by decide +kernel
theorem dX7_init_8 : decode cX7_init 8 = .ok (.dup, 1) := by decide +kernel
theorem dX7_init_9 : decode cX7_init 9 = .ok (.iload_n 1, 1) := by decide +kernel
theorem dX7_init_10 : decode cX7_init 10 = .ok (.iload_n 2, 1) := by decide +kernel
theorem dX7_init_11 : decode cX7_init 11 = .ok (.sipush 256, 3) := by decide +kernel
theorem dX7_init_14 : decode cX7_init 14 = .ok (.invokestatic 11, 3) := by decide +kernel
theorem dX7_init_17 : decode cX7_init 17 = .ok (.invokespecial 17, 3) := by decide +kernel
theorem dX7_init_20 : decode cX7_init 20 = .ok (.putfield 20, 3) := by decide +kernel
theorem dX7_init_23 : decode cX7_init 23 = .ok (.aload_n 0, 1) := by decide +kernel
theorem dX7_init_24 : decode cX7_init 24 = .ok (.new 24, 3) := by decide +kernel
theorem dX7_init_27 : decode cX7_init 27 = .ok (.dup, 1) := by decide +kernel
theorem dX7_init_28 : decode cX7_init 28 = .ok (.invokespecial 26, 3) := by decide +kernel
theorem dX7_init_31 : decode cX7_init 31 = .ok (.putfield 27, 3) := by decide +kernel
theorem dX7_init_34 : decode cX7_init 34 = .ok (.aload_n 0, 1) := by decide +kernel
theorem dX7_init_35 : decode cX7_init 35 = .ok (.new 31, 3) := by decide +kernel
theorem dX7_init_38 : decode cX7_init 38 = .ok (.dup, 1) := by decide +kernel
theorem dX7_init_39 : decode cX7_init 39 = .ok (.iload_n 3, 1) := by decide +kernel
theorem dX7_init_40 : decode cX7_init 40 = .ok (.sipush 256, 3) := by decide +kernel
theorem dX7_init_43 : decode cX7_init 43 = .ok (.invokestatic 11, 3) := by decide +kernel
theorem dX7_init_46 : decode cX7_init 46 = .ok (.invokespecial 33, 3) := by decide +kernel
theorem dX7_init_49 : decode cX7_init 49 = .ok (.putfield 36, 3) := by decide +kernel
theorem dX7_init_52 : decode cX7_init 52 = .ok (.return_, 1) := by decide +kernel
set_option maxRecDepth 20000 in
theorem ggX7_data_X7_isByte : GoodIn wsX7_data wsX7_isByte := goodIn_r _ [5] (by decide +kernel) (by decide +kernel)
set_option maxRecDepth 20000 in
theorem gX7_data_X7_isByte : GoodIn wsX7_data (va_wsS RX7 40 yX7_isByte wsX7_isByte) := goodIn_app (goodIn_of _ (by decide +kernel)) ggX7_data_X7_isByte
set_option maxRecDepth 20000 in
theorem ggX7_data_X3_give : GoodIn wsX7_data wsX3_give := goodIn_r _ [10, 11, 12, 26, 27, 28, 29, 30, 31] (by decide +kernel) (by decide +kernel)
set_option maxRecDepth 20000 in
theorem gX7_data_X3_give : GoodIn wsX7_data (wsV RX7 48 RX3 yX3_give wsX3_give) := goodIn_app (goodIn_of _ (by decide +kernel)) ggX7_data_X3_give
theorem dX7_data_0 : decode cX7_data 0 = .ok (.iload_n 1, 1) := by decide +kernel
theorem dX7_data_1 : decode cX7_data 1 = .ok (.invokestatic 40, 3) := by decide +kernel
theorem dX7_data_4 : decode cX7_data 4 = .ok (.ifCond .eq 17, 3) := by decide +kernel
theorem dX7_data_7 : decode cX7_data 7 = .ok (.aload_n 0, 1) := by decide +kernel
theorem dX7_data_8 : decode cX7_data 8 = .ok (.getfield 20, 3) := by decide +kernel
theorem dX7_data_11 : decode cX7_data 11 = .ok (.getfield 44, 3) := by decide +kernel
theorem dX7_data_14 : decode cX7_data 14 = .ok (.iload_n 1, 1) := by decide +kernel
theorem dX7_data_15 : decode cX7_data 15 = .ok (.invokevirtual 48, 3) := by decide +kernel
theorem dX7_data_18 : decode cX7_data 18 = .ok (.goto 4, 3) := by decide +kernel
theorem dX7_data_21 : decode cX7_data 21 = .ok (.iconst (-1), 1) := by decide +kernel
theorem dX7_data_22 : decode cX7_data 22 = .ok (.ireturn, 1) := by decide +kernel
set_option maxRecDepth 20000 in
theorem ggX7_send_X7_isByte : GoodIn wsX7_send wsX7_isByte := goodIn_r _ [5] (by decide +kernel) (by decide +kernel)
set_option maxRecDepth 20000 in
theorem gX7_send_X7_isByte : GoodIn wsX7_send (va_wsS RX7 40 yX7_isByte wsX7_isByte) := goodIn_app (goodIn_of _ (by decide +kernel)) ggX7_send_X7_isByte
set_option maxRecDepth 20000 in
theorem ggX7_send_X3_enqueue : GoodIn wsX7_send wsX3_enqueue := goodIn_r _ [10, 11, 12, 13, 14, 15, 16, 17, 9, 18, 19, 20, 21, 22, 23, 24, 25, 4, 26, 27, 28, 29, 30, 31, 32, 33, 34, 35, 36, 37, 38, 39, 40, 54, 55, 56, 57, 58, 59] (by decide +kernel) (by decide +kernel)
set_option maxRecDepth 20000 in
theorem gX7_send_X3_enqueue : GoodIn wsX7_send (wsV RX7 54 RX3 yX3_enqueue wsX3_enqueue) := goodIn_app (goodIn_of _ (by decide +kernel)) ggX7_send_X3_enqueue
theorem dX7_send_0 : decode cX7_send 0 = .ok (.iload_n 1, 1) := by decide +kernel
theorem dX7_send_1 : decode cX7_send 1 = .ok (.invokestatic 40, 3) := by decide +kernel
theorem dX7_send_4 : decode cX7_send 4 = .ok (.ifCond .eq 17, 3) := by decide +kernel
theorem dX7_send_7 : decode cX7_send 7 = .ok (.aload_n 0, 1) := by decide +kernel
theorem dX7_send_8 : decode cX7_send 8 = .ok (.getfield 20, 3) := by decide +kernel
theorem dX7_send_11 : decode cX7_send 11 = .ok (.getfield 44, 3) := by decide +kernel
theorem dX7_send_14 : decode cX7_send 14 = .ok (.iload_n 1, 1) := by decide +kernel
theorem dX7_send_15 : decode cX7_send 15 = .ok (.invokevirtual 54, 3) := by decide +kernel
theorem dX7_send_18 : decode cX7_send 18 = .ok (.goto 4, 3) := by decide +kernel
theorem dX7_send_21 : decode cX7_send 21 = .ok (.iconst (-1), 1) := by decide +kernel
theorem dX7_send_22 : decode cX7_send 22 = .ok (.ireturn, 1) := by decide +kernel
set_option maxRecDepth 20000 in
theorem ggX7_hit_X0_place : GoodIn wsX7_hit wsX0_place := goodIn_r _ [6, 7, 8, 12, 13] (by decide +kernel) (by decide +kernel)
set_option maxRecDepth 20000 in
theorem gX7_hit_X0_place : GoodIn wsX7_hit (wsV RX7 57 RX0 yX0_place wsX0_place) := goodIn_app (goodIn_of _ (by decide +kernel)) ggX7_hit_X0_place
theorem dX7_hit_0 : decode cX7_hit 0 = .ok (.aload_n 0, 1) := by decide +kernel
theorem dX7_hit_1 : decode cX7_hit 1 = .ok (.getfield 27, 3) := by decide +kernel
theorem dX7_hit_4 : decode cX7_hit 4 = .ok (.iload_n 1, 1) := by decide +kernel
theorem dX7_hit_5 : decode cX7_hit 5 = .ok (.iload_n 2, 1) := by decide +kernel
theorem dX7_hit_6 : decode cX7_hit 6 = .ok (.invokevirtual 57, 3) := by decide +kernel
theorem dX7_hit_9 : decode cX7_hit 9 = .ok (.ireturn, 1) := by decide +kernel
set_option maxRecDepth 20000 in
theorem ggX7_run_X6_sendBit : GoodIn wsX7_run wsX6_sendBit := goodIn_r _ [8, 9, 10, 11, 12, 13, 14, 15, 7, 16, 17, 18, 19, 20, 21, 22, 23, 24, 25, 26, 27, 28, 29, 30, 31, 32, 33, 34, 35, 36, 37, 38, 39, 40, 41, 42, 43, 44, 45, 46, 47, 48, 49, 50, 51, 52, 53, 54, 55, 56, 57, 58, 59, 60, 61, 62, 172, 173, 174, 175, 176, 177, 178, 179, 180, 181, 182, 183, 184, 185, 186, 187, 188] (by decide +kernel) (by decide +kernel)
set_option maxRecDepth 20000 in
theorem gX7_run_X6_sendBit : GoodIn wsX7_run (wsV RX7 61 RX6 yX6_sendBit wsX6_sendBit) := goodIn_app (goodIn_of _ (by decide +kernel)) ggX7_run_X6_sendBit
set_option maxRecDepth 20000 in
theorem ggX7_run_X6_lineLevel : GoodIn wsX7_run wsX6_lineLevel := goodIn_r _ [66, 12, 172, 173, 174, 175, 176, 177, 178, 179, 180, 181] (by decide +kernel) (by decide +kernel)
set_option maxRecDepth 20000 in
theorem gX7_run_X6_lineLevel : GoodIn wsX7_run (wsV RX7 64 RX6 yX6_lineLevel wsX6_lineLevel) := goodIn_app (goodIn_of _ (by decide +kernel)) ggX7_run_X6_lineLevel
set_option maxRecDepth 20000 in
theorem ggX7_run_X0_passOn : GoodIn wsX7_run wsX0_passOn := goodIn_r _ [71, 72, 73, 189, 190] (by decide +kernel) (by decide +kernel)
set_option maxRecDepth 20000 in
theorem gX7_run_X0_passOn : GoodIn wsX7_run (wsV RX7 68 RX0 yX0_passOn wsX0_passOn) := goodIn_app (goodIn_of _ (by decide +kernel)) ggX7_run_X0_passOn
set_option maxRecDepth 20000 in
theorem ggX7_run_X2_hear : GoodIn wsX7_run wsX2_hear := goodIn_r _ [78, 79, 80, 81, 82, 83, 84, 85, 77, 86, 87, 88, 89, 90, 91, 47, 48, 49, 50, 51, 92, 53, 54, 55, 93, 94, 95, 96, 97, 98, 99, 100, 101, 102, 103, 104, 105, 106, 61, 44, 62, 107, 108, 109, 110, 111, 112, 113, 114, 115, 116, 117, 118, 119, 120, 121, 122, 123, 124, 125, 126, 127, 128, 129, 130, 131, 132, 133, 134, 135, 136, 137, 138, 139, 140, 141, 142, 143, 144, 40, 145, 146, 39, 41, 42, 43, 45, 147, 148, 149, 150, 151, 152, 153, 154, 155, 156, 157, 158, 159, 160, 161, 162, 163, 164, 165, 166, 167, 168, 191, 192, 193, 194, 195, 196, 197, 198, 199, 200, 201, 202, 203, 204, 205, 206, 207, 188, 208, 209, 210, 211] (by decide +kernel) (by decide +kernel)
set_option maxRecDepth 20000 in
theorem gX7_run_X2_hear : GoodIn wsX7_run (wsV RX7 71 RX2 yX2_hear wsX2_hear) := goodIn_app (goodIn_of _ (by decide +kernel)) ggX7_run_X2_hear
theorem dX7_run_0 : decode cX7_run 0 = .ok (.iload_n 1, 1) := by decide +kernel
theorem dX7_run_1 : decode cX7_run 1 = .ok (.iconst 1, 1) := by decide +kernel
theorem dX7_run_2 : decode cX7_run 2 = .ok (.if_icmp .lt 10, 3) := by decide +kernel
theorem dX7_run_5 : decode cX7_run 5 = .ok (.iload_n 1, 1) := by decide +kernel
theorem dX7_run_6 : decode cX7_run 6 = .ok (.sipush 400, 3) := by decide +kernel
theorem dX7_run_9 : decode cX7_run 9 = .ok (.if_icmp .le 5, 3) := by decide +kernel
theorem dX7_run_12 : decode cX7_run 12 = .ok (.iconst (-1), 1) := by decide +kernel
theorem dX7_run_13 : decode cX7_run 13 = .ok (.ireturn, 1) := by decide +kernel
theorem dX7_run_14 : decode cX7_run 14 = .ok (.iconst 0, 1) := by decide +kernel
theorem dX7_run_15 : decode cX7_run 15 = .ok (.istore_n 2, 1) := by decide +kernel
theorem dX7_run_16 : decode cX7_run 16 = .ok (.iconst 0, 1) := by decide +kernel
theorem dX7_run_17 : decode cX7_run 17 = .ok (.istore_n 3, 1) := by decide +kernel
theorem dX7_run_18 : decode cX7_run 18 = .ok (.iload_n 3, 1) := by decide +kernel
theorem dX7_run_19 : decode cX7_run 19 = .ok (.iload_n 1, 1) := by decide +kernel
theorem dX7_run_20 : decode cX7_run 20 = .ok (.if_icmp .ge 43, 3) := by decide +kernel
theorem dX7_run_23 : decode cX7_run 23 = .ok (.aload_n 0, 1) := by decide +kernel
theorem dX7_run_24 : decode cX7_run 24 = .ok (.getfield 20, 3) := by decide +kernel
theorem dX7_run_27 : decode cX7_run 27 = .ok (.invokevirtual 61, 3) := by decide +kernel
theorem dX7_run_30 : decode cX7_run 30 = .ok (.aload_n 0, 1) := by decide +kernel
theorem dX7_run_31 : decode cX7_run 31 = .ok (.getfield 36, 3) := by decide +kernel
theorem dX7_run_34 : decode cX7_run 34 = .ok (.aload_n 0, 1) := by decide +kernel
theorem dX7_run_35 : decode cX7_run 35 = .ok (.getfield 27, 3) := by decide +kernel
theorem dX7_run_38 : decode cX7_run 38 = .ok (.aload_n 0, 1) := by decide +kernel
theorem dX7_run_39 : decode cX7_run 39 = .ok (.getfield 20, 3) := by decide +kernel
theorem dX7_run_42 : decode cX7_run 42 = .ok (.invokevirtual 64, 3) := by decide +kernel
theorem dX7_run_45 : decode cX7_run 45 = .ok (.invokevirtual 68, 3) := by decide +kernel
theorem dX7_run_48 : decode cX7_run 48 = .ok (.invokevirtual 71, 3) := by decide +kernel
theorem dX7_run_51 : decode cX7_run 51 = .ok (.ifCond .eq 6, 3) := by decide +kernel
theorem dX7_run_54 : decode cX7_run 54 = .ok (.iinc 2 1, 3) := by decide +kernel
theorem dX7_run_57 : decode cX7_run 57 = .ok (.iinc 3 1, 3) := by decide +kernel
theorem dX7_run_60 : decode cX7_run 60 = .ok (.goto (-42), 3) := by decide +kernel
theorem dX7_run_63 : decode cX7_run 63 = .ok (.iload_n 2, 1) := by decide +kernel
theorem dX7_run_64 : decode cX7_run 64 = .ok (.ireturn, 1) := by decide +kernel
theorem dX7_waiting_0 : decode cX7_waiting 0 = .ok (.aload_n 0, 1) := by decide +kernel
theorem dX7_waiting_1 : decode cX7_waiting 1 = .ok (.getfield 20, 3) := by decide +kernel
theorem dX7_waiting_4 : decode cX7_waiting 4 = .ok (.getfield 44, 3) := by decide +kernel
theorem dX7_waiting_7 : decode cX7_waiting 7 = .ok (.getfield 74, 3) := by decide +kernel
theorem dX7_waiting_10 : decode cX7_waiting 10 = .ok (.ireturn, 1) := by decide +kernel
theorem dX7_sending_0 : decode cX7_sending 0 = .ok (.aload_n 0, 1) := by decide +kernel
theorem dX7_sending_1 : decode cX7_sending 1 = .ok (.getfield 20, 3) := by decide +kernel
theorem dX7_sending_4 : decode cX7_sending 4 = .ok (.getfield 78, 3) := by decide +kernel
theorem dX7_sending_7 : decode cX7_sending 7 = .ok (.ireturn, 1) := by decide +kernel
set_option maxRecDepth 20000 in
theorem ggX7_level_X6_lineLevel : GoodIn wsX7_level wsX6_lineLevel := goodIn_r _ [6, 7, 11, 12, 13, 14, 15, 16, 17, 18, 19, 20] (by decide +kernel) (by decide +kernel)
set_option maxRecDepth 20000 in
theorem gX7_level_X6_lineLevel : GoodIn wsX7_level (wsV RX7 64 RX6 yX6_lineLevel wsX6_lineLevel) := goodIn_app (goodIn_of _ (by decide +kernel)) ggX7_level_X6_lineLevel
theorem dX7_level_0 : decode cX7_level 0 = .ok (.aload_n 0, 1) := by decide +kernel
theorem dX7_level_1 : decode cX7_level 1 = .ok (.getfield 20, 3) := by decide +kernel
theorem dX7_level_4 : decode cX7_level 4 = .ok (.invokevirtual 64, 3) := by decide +kernel
theorem dX7_level_7 : decode cX7_level 7 = .ok (.ireturn, 1) := by decide +kernel
theorem dX7_register_0 : decode cX7_register 0 = .ok (.aload_n 0, 1) := by decide +kernel
theorem dX7_register_1 : decode cX7_register 1 = .ok (.getfield 20, 3) := by decide +kernel
theorem dX7_register_4 : decode cX7_register 4 = .ok (.getfield 82, 3) := by decide +kernel
theorem dX7_register_7 : decode cX7_register 7 = .ok (.getfield 86, 3) := by decide +kernel
theorem dX7_register_10 : decode cX7_register 10 = .ok (.ireturn, 1) := by decide +kernel
theorem dX7_state_0 : decode cX7_state 0 = .ok (.aload_n 0, 1) := by decide +kernel
theorem dX7_state_1 : decode cX7_state 1 = .ok (.getfield 36, 3) := by decide +kernel
theorem dX7_state_4 : decode cX7_state 4 = .ok (.getfield 91, 3) := by decide +kernel
theorem dX7_state_7 : decode cX7_state 7 = .ok (.ireturn, 1) := by decide +kernel
theorem dX7_count_0 : decode cX7_count 0 = .ok (.iload_n 1, 1) := by decide +kernel
theorem dX7_count_1 : decode cX7_count 1 = .ok (.ifCond .lt 9, 3) := by decide +kernel
theorem dX7_count_4 : decode cX7_count 4 = .ok (.iload_n 1, 1) := by decide +kernel
theorem dX7_count_5 : decode cX7_count 5 = .ok (.bipush 11, 2) := by decide +kernel
theorem dX7_count_7 : decode cX7_count 7 = .ok (.if_icmp .lt 7, 3) := by decide +kernel
theorem dX7_count_10 : decode cX7_count 10 = .ok (.iconst (-1), 1) := by decide +kernel
theorem dX7_count_11 : decode cX7_count 11 = .ok (.goto 15, 3) := by decide +kernel
theorem dX7_count_14 : decode cX7_count 14 = .ok (.aload_n 0, 1) := by decide +kernel
theorem dX7_count_15 : decode cX7_count 15 = .ok (.getfield 36, 3) := by decide +kernel
theorem dX7_count_18 : decode cX7_count 18 = .ok (.getfield 94, 3) := by decide +kernel
theorem dX7_count_21 : decode cX7_count 21 = .ok (.getfield 98, 3) := by decide +kernel
theorem dX7_count_24 : decode cX7_count 24 = .ok (.iload_n 1, 1) := by decide +kernel
theorem dX7_count_25 : decode cX7_count 25 = .ok (.iaload, 1) := by decide +kernel
theorem dX7_count_26 : decode cX7_count 26 = .ok (.ireturn, 1) := by decide +kernel
theorem dX7_source_0 : decode cX7_source 0 = .ok (.aload_n 0, 1) := by decide +kernel
theorem dX7_source_1 : decode cX7_source 1 = .ok (.getfield 36, 3) := by decide +kernel
theorem dX7_source_4 : decode cX7_source 4 = .ok (.getfield 94, 3) := by decide +kernel
theorem dX7_source_7 : decode cX7_source 7 = .ok (.getfield 104, 3) := by decide +kernel
theorem dX7_source_10 : decode cX7_source 10 = .ok (.ireturn, 1) := by decide +kernel
theorem dX7_length_0 : decode cX7_length 0 = .ok (.aload_n 0, 1) := by decide +kernel
theorem dX7_length_1 : decode cX7_length 1 = .ok (.getfield 36, 3) := by decide +kernel
theorem dX7_length_4 : decode cX7_length 4 = .ok (.getfield 94, 3) := by decide +kernel
theorem dX7_length_7 : decode cX7_length 7 = .ok (.getfield 107, 3) := by decide +kernel
theorem dX7_length_10 : decode cX7_length 10 = .ok (.ireturn, 1) := by decide +kernel
set_option maxRecDepth 20000 in
theorem ggX7_byteOf_X1_goodByte : GoodIn wsX7_byteOf wsX1_goodByte := goodIn_r _ [6, 7, 8, 21, 22, 23, 24] (by decide +kernel) (by decide +kernel)
set_option maxRecDepth 20000 in
theorem gX7_byteOf_X1_goodByte : GoodIn wsX7_byteOf (wsV RX7 110 RX1 yX1_goodByte wsX1_goodByte) := goodIn_app (goodIn_of _ (by decide +kernel)) ggX7_byteOf_X1_goodByte
theorem dX7_byteOf_0 : decode cX7_byteOf 0 = .ok (.aload_n 0, 1) := by decide +kernel
theorem dX7_byteOf_1 : decode cX7_byteOf 1 = .ok (.getfield 36, 3) := by decide +kernel
theorem dX7_byteOf_4 : decode cX7_byteOf 4 = .ok (.getfield 94, 3) := by decide +kernel
theorem dX7_byteOf_7 : decode cX7_byteOf 7 = .ok (.iload_n 1, 1) := by decide +kernel
theorem dX7_byteOf_8 : decode cX7_byteOf 8 = .ok (.invokevirtual 110, 3) := by decide +kernel
theorem dX7_byteOf_11 : decode cX7_byteOf 11 = .ok (.ireturn, 1) := by decide +kernel
theorem dX7_isByte_0 : decode cX7_isByte 0 = .ok (.iload_n 0, 1) := by decide +kernel
theorem dX7_isByte_1 : decode cX7_isByte 1 = .ok (.ifCond .lt 14, 3) := by decide +kernel
theorem dX7_isByte_4 : decode cX7_isByte 4 = .ok (.iload_n 0, 1) := by decide +kernel
theorem dX7_isByte_5 : decode cX7_isByte 5 = .ok (.sipush 256, 3) := by decide +kernel
theorem dX7_isByte_8 : decode cX7_isByte 8 = .ok (.if_icmp .ge 7, 3) := by decide +kernel
theorem dX7_isByte_11 : decode cX7_isByte 11 = .ok (.iconst 1, 1) := by decide +kernel
theorem dX7_isByte_12 : decode cX7_isByte 12 = .ok (.goto 4, 3) := by decide +kernel
theorem dX7_isByte_15 : decode cX7_isByte 15 = .ok (.iconst 0, 1) := by decide +kernel
theorem dX7_isByte_16 : decode cX7_isByte 16 = .ok (.ireturn, 1) := by decide +kernel
theorem dX7_frameSize_0 : decode cX7_frameSize 0 = .ok (.iconst 3, 1) := by decide +kernel
theorem dX7_frameSize_1 : decode cX7_frameSize 1 = .ok (.iload_n 0, 1) := by decide +kernel
theorem dX7_frameSize_2 : decode cX7_frameSize 2 = .ok (.bipush 6, 2) := by decide +kernel
theorem dX7_frameSize_4 : decode cX7_frameSize 4 = .ok (.invokestatic 113, 3) := by decide +kernel
theorem dX7_frameSize_7 : decode cX7_frameSize 7 = .ok (.iadd, 1) := by decide +kernel
theorem dX7_frameSize_8 : decode cX7_frameSize 8 = .ok (.iconst 4, 1) := by decide +kernel
theorem dX7_frameSize_9 : decode cX7_frameSize 9 = .ok (.iadd, 1) := by decide +kernel
theorem dX7_frameSize_10 : decode cX7_frameSize 10 = .ok (.ireturn, 1) := by decide +kernel
theorem dX7_checkOf_0 : decode cX7_checkOf 0 = .ok (.iconst (-1), 1) := by decide +kernel
theorem dX7_checkOf_1 : decode cX7_checkOf 1 = .ok (.istore_n 2, 1) := by decide +kernel
theorem dX7_checkOf_2 : decode cX7_checkOf 2 = .ok (.iconst 0, 1) := by decide +kernel
theorem dX7_checkOf_3 : decode cX7_checkOf 3 = .ok (.istore_n 3, 1) := by decide +kernel
theorem dX7_checkOf_4 : decode cX7_checkOf 4 = .ok (.iload_n 3, 1) := by decide +kernel
theorem dX7_checkOf_5 : decode cX7_checkOf 5 = .ok (.iload_n 1, 1) := by decide +kernel
theorem dX7_checkOf_6 : decode cX7_checkOf 6 = .ok (.if_icmp .ge 56, 3) := by decide +kernel
theorem dX7_checkOf_9 : decode cX7_checkOf 9 = .ok (.iload_n 3, 1) := by decide +kernel
theorem dX7_checkOf_10 : decode cX7_checkOf 10 = .ok (.aload_n 0, 1) := by decide +kernel
theorem dX7_checkOf_11 : decode cX7_checkOf 11 = .ok (.arraylength, 1) := by decide +kernel
theorem dX7_checkOf_12 : decode cX7_checkOf 12 = .ok (.if_icmp .ge 50, 3) := by decide +kernel
theorem dX7_checkOf_15 : decode cX7_checkOf 15 = .ok (.iload_n 2, 1) := by decide +kernel
theorem dX7_checkOf_16 : decode cX7_checkOf 16 = .ok (.aload_n 0, 1) := by decide +kernel
theorem dX7_checkOf_17 : decode cX7_checkOf 17 = .ok (.iload_n 3, 1) := by decide +kernel
theorem dX7_checkOf_18 : decode cX7_checkOf 18 = .ok (.iaload, 1) := by decide +kernel
theorem dX7_checkOf_19 : decode cX7_checkOf 19 = .ok (.ixor, 1) := by decide +kernel
theorem dX7_checkOf_20 : decode cX7_checkOf 20 = .ok (.istore_n 2, 1) := by decide +kernel
theorem dX7_checkOf_21 : decode cX7_checkOf 21 = .ok (.iconst 0, 1) := by decide +kernel
theorem dX7_checkOf_22 : decode cX7_checkOf 22 = .ok (.istore 4, 2) := by decide +kernel
theorem dX7_checkOf_24 : decode cX7_checkOf 24 = .ok (.iload 4, 2) := by decide +kernel
theorem dX7_checkOf_26 : decode cX7_checkOf 26 = .ok (.bipush 8, 2) := by decide +kernel
theorem dX7_checkOf_28 : decode cX7_checkOf 28 = .ok (.if_icmp .ge 28, 3) := by decide +kernel
theorem dX7_checkOf_31 : decode cX7_checkOf 31 = .ok (.iload_n 2, 1) := by decide +kernel
theorem dX7_checkOf_32 : decode cX7_checkOf 32 = .ok (.iconst 1, 1) := by decide +kernel
theorem dX7_checkOf_33 : decode cX7_checkOf 33 = .ok (.iand, 1) := by decide +kernel
theorem dX7_checkOf_34 : decode cX7_checkOf 34 = .ok (.ifCond .eq 12, 3) := by decide +kernel
theorem dX7_checkOf_37 : decode cX7_checkOf 37 = .ok (.iload_n 2, 1) := by decide +kernel
theorem dX7_checkOf_38 : decode cX7_checkOf 38 = .ok (.iconst 1, 1) := by decide +kernel
theorem dX7_checkOf_39 : decode cX7_checkOf 39 = .ok (.iushr, 1) := by decide +kernel
theorem dX7_checkOf_40 : decode cX7_checkOf 40 = .ok (.ldc 116, 2) := by decide +kernel
theorem dX7_checkOf_42 : decode cX7_checkOf 42 = .ok (.ixor, 1) := by decide +kernel
theorem dX7_checkOf_43 : decode cX7_checkOf 43 = .ok (.goto 6, 3) := by decide +kernel
theorem dX7_checkOf_46 : decode cX7_checkOf 46 = .ok (.iload_n 2, 1) := by decide +kernel
theorem dX7_checkOf_47 : decode cX7_checkOf 47 = .ok (.iconst 1, 1) := by decide +kernel
theorem dX7_checkOf_48 : decode cX7_checkOf 48 = .ok (.iushr, 1) := by decide +kernel
theorem dX7_checkOf_49 : decode cX7_checkOf 49 = .ok (.istore_n 2, 1) := by decide +kernel
theorem dX7_checkOf_50 : decode cX7_checkOf 50 = .ok (.iinc 4 1, 3) := by decide +kernel
theorem dX7_checkOf_53 : decode cX7_checkOf 53 = .ok (.goto (-29), 3) := by decide +kernel
theorem dX7_checkOf_56 : decode cX7_checkOf 56 = .ok (.iinc 3 1, 3) := by decide +kernel
theorem dX7_checkOf_59 : decode cX7_checkOf 59 = .ok (.goto (-55), 3) := by decide +kernel
theorem dX7_checkOf_62 : decode cX7_checkOf 62 = .ok (.iload_n 2, 1) := by decide +kernel
theorem dX7_checkOf_63 : decode cX7_checkOf 63 = .ok (.iconst (-1), 1) := by decide +kernel
theorem dX7_checkOf_64 : decode cX7_checkOf 64 = .ok (.ixor, 1) := by decide +kernel
theorem dX7_checkOf_65 : decode cX7_checkOf 65 = .ok (.ireturn, 1) := by decide +kernel
theorem dX8_init_0 : decode cX8_init 0 = .ok (.aload_n 0, 1) := by decide +kernel
theorem dX8_init_1 : decode cX8_init 1 = .ok (.invokespecial 1, 3) := by decide +kernel
theorem dX8_init_4 : decode cX8_init 4 = .ok (.aload_n 0, 1) := by decide +kernel
theorem dX8_init_5 : decode cX8_init 5 = .ok (.bipush 24, 2) := by decide +kernel
theorem dX8_init_7 : decode cX8_init 7 = .ok (.newarray .int, 2) := by decide +kernel
theorem dX8_init_9 : decode cX8_init 9 = .ok (.putfield 7, 3) := by decide +kernel
theorem dX8_init_12 : decode cX8_init 12 = .ok (.aload_n 0, 1) := by decide +kernel
theorem dX8_init_13 : decode cX8_init 13 = .ok (.sipush 128, 3) := by decide +kernel
theorem dX8_init_16 : decode cX8_init 16 = .ok (.newarray .int, 2) := by decide +kernel
theorem dX8_init_18 : decode cX8_init 18 = .ok (.putfield 13, 3) := by decide +kernel
theorem dX8_init_21 : decode cX8_init 21 = .ok (.aload_n 0, 1) := by decide +kernel
theorem dX8_init_22 : decode cX8_init 22 = .ok (.sipush 360, 3) := by decide +kernel
theorem dX8_init_25 : decode cX8_init 25 = .ok (.newarray .int, 2) := by decide +kernel
theorem dX8_init_27 : decode cX8_init 27 = .ok (.putfield 16, 3) := by decide +kernel
theorem dX8_init_30 : decode cX8_init 30 = .ok (.aload_n 0, 1) := by decide +kernel
theorem dX8_init_31 : decode cX8_init 31 = .ok (.bipush 48, 2) := by decide +kernel
theorem dX8_init_33 : decode cX8_init 33 = .ok (.newarray .int, 2) := by decide +kernel
theorem dX8_init_35 : decode cX8_init 35 = .ok (.putfield 19, 3) := by decide +kernel
theorem dX8_init_38 : decode cX8_init 38 = .ok (.aload_n 0, 1) := by decide +kernel
theorem dX8_init_39 : decode cX8_init 39 = .ok (.sipush 128, 3) := by decide +kernel
theorem dX8_init_42 : decode cX8_init 42 = .ok (.newarray .int, 2) := by decide +kernel
theorem dX8_init_44 : decode cX8_init 44 = .ok (.putfield 22, 3) := by decide +kernel
theorem dX8_init_47 : decode cX8_init 47 = .ok (.aload_n 0, 1) := by decide +kernel
theorem dX8_init_48 : decode cX8_init 48 = .ok (.sipush 128, 3) := by decide +kernel
theorem dX8_init_51 : decode cX8_init 51 = .ok (.newarray .int, 2) := by decide +kernel
theorem dX8_init_53 : decode cX8_init 53 = .ok (.putfield 25, 3) := by decide +kernel
theorem dX8_init_56 : decode cX8_init 56 = .ok (.aload_n 0, 1) := by decide +kernel
theorem dX8_init_57 : decode cX8_init 57 = .ok (.bipush 100, 2) := by decide +kernel
theorem dX8_init_59 : decode cX8_init 59 = .ok (.newarray .int, 2) := by decide +kernel
theorem dX8_init_61 : decode cX8_init 61 = .ok (.putfield 28, 3) := by decide +kernel
theorem dX8_init_64 : decode cX8_init 64 = .ok (.aload_n 0, 1) := by decide +kernel
theorem dX8_init_65 : decode cX8_init 65 = .ok (.bipush 11, 2) := by decide +kernel
theorem dX8_init_67 : decode cX8_init 67 = .ok (.newarray .int, 2) := by decide +kernel
theorem dX8_init_69 : decode cX8_init 69 = .ok (.putfield 31, 3) := by decide +kernel
theorem dX8_init_72 : decode cX8_init 72 = .ok (.aload_n 0, 1) := by decide +kernel
theorem dX8_init_73 : decode cX8_init 73 = .ok (.bipush 24, 2) := by decide +kernel
theorem dX8_init_75 : decode cX8_init 75 = .ok (.newarray .int, 2) := by decide +kernel
theorem dX8_init_77 : decode cX8_init 77 = .ok (.putfield 34, 3) := by decide +kernel
theorem dX8_init_80 : decode cX8_init 80 = .ok (.iload_n 1, 1) := by decide +kernel
theorem dX8_init_81 : decode cX8_init 81 = .ok (.sipush 2048, 3) := by decide +kernel
theorem dX8_init_84 : decode cX8_init 84 = .ok (.irem, 1) := by decide +kernel
theorem dX8_init_85 : decode cX8_init 85 = .ok (.sipush 2048, 3) := by decide +kernel
theorem dX8_init_88 : decode cX8_init 88 = .ok (.iadd, 1) := by decide +kernel
theorem dX8_init_89 : decode cX8_init 89 = .ok (.sipush 2048, 3) := by decide +kernel
theorem dX8_init_92 : decode cX8_init 92 = .ok (.irem, 1) := by decide +kernel
theorem dX8_init_93 : decode cX8_init 93 = .ok (.istore 4, 2) := by decide +kernel
theorem dX8_init_95 : decode cX8_init 95 = .ok (.aload_n 0, 1) := by decide +kernel
theorem dX8_init_96 : decode cX8_init 96 = .ok (.iload 4, 2) := by decide +kernel
theorem dX8_init_98 : decode cX8_init 98 = .ok (.ifCond .ne 7, 3) := by decide +kernel
theorem dX8_init_101 : decode cX8_init 101 = .ok (.iconst 1, 1) := by decide +kernel
theorem dX8_init_102 : decode cX8_init 102 = .ok (.goto 5, 3) := by decide +kernel
theorem dX8_init_105 : decode cX8_init 105 = .ok (.iload 4, 2) := by decide +kernel
theorem dX8_init_107 : decode cX8_init 107 = .ok (.putfield 37, 3) := by decide +kernel
theorem dX8_init_110 : decode cX8_init 110 = .ok (.aload_n 0, 1) := by decide +kernel
theorem dX8_init_111 : decode cX8_init 111 = .ok (.iload_n 2, 1) := by decide +kernel
theorem dX8_init_112 : decode cX8_init 112 = .ok (.sipush 256, 3) := by decide +kernel
theorem dX8_init_115 : decode cX8_init 115 = .ok (.irem, 1) := by decide +kernel
theorem dX8_init_116 : decode cX8_init 116 = .ok (.sipush 256, 3) := by decide +kernel
theorem dX8_init_119 : decode cX8_init 119 = .ok (.iadd, 1) := by decide +kernel
theorem dX8_init_120 : decode cX8_init 120 = .ok (.sipush 256, 3) := by decide +kernel
theorem dX8_init_123 : decode cX8_init 123 = .ok (.irem, 1) := by decide +kernel
theorem dX8_init_124 : decode cX8_init 124 = .ok (.putfield 41, 3) := by decide +kernel
theorem dX8_init_127 : decode cX8_init 127 = .ok (.aload_n 0, 1) := by decide +kernel
theorem dX8_init_128 : decode cX8_init 128 = .ok (.iload_n 3, 1) := by decide +kernel
theorem dX8_init_129 : decode cX8_init 129 = .ok (.sipush 256, 3) := by decide +kernel
theorem dX8_init_132 : decode cX8_init 132 = .ok (.irem, 1) := by decide +kernel
theorem dX8_init_133 : decode cX8_init 133 = .ok (.sipush 256, 3) := by decide +kernel
theorem dX8_init_136 : decode cX8_init 136 = .ok (.iadd, 1) := by decide +kernel
theorem dX8_init_137 : decode cX8_init 137 = .ok (.sipush 256, 3) := by decide +kernel
theorem dX8_init_140 : decode cX8_init 140 = .ok (.irem, 1) := by decide +kernel
theorem dX8_init_141 : decode cX8_init 141 = .ok (.putfield 44, 3) := by decide +kernel
theorem dX8_init_144 : decode cX8_init 144 = .ok (.return_, 1) := by decide +kernel
theorem dX8_isByte_0 : decode cX8_isByte 0 = .ok (.iload_n 0, 1) := by decide +kernel
theorem dX8_isByte_1 : decode cX8_isByte 1 = .ok (.ifCond .lt 14, 3) := by decide +kernel
