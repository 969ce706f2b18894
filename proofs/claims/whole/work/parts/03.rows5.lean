theorem dX8_hit_24 : decode cX8_hit 24 = .ok (.getfield 22, 3) := by decide +kernel
theorem dX8_hit_27 : decode cX8_hit 27 = .ok (.aload_n 0, 1) := by decide +kernel
theorem dX8_hit_28 : decode cX8_hit 28 = .ok (.getfield 88, 3) := by decide +kernel
theorem dX8_hit_31 : decode cX8_hit 31 = .ok (.iload_n 1, 1) := by decide +kernel
theorem dX8_hit_32 : decode cX8_hit 32 = .ok (.iadd, 1) := by decide +kernel
theorem dX8_hit_33 : decode cX8_hit 33 = .ok (.sipush 128, 3) := by decide +kernel
theorem dX8_hit_36 : decode cX8_hit 36 = .ok (.irem, 1) := by decide +kernel
theorem dX8_hit_37 : decode cX8_hit 37 = .ok (.aload_n 0, 1) := by decide +kernel
theorem dX8_hit_38 : decode cX8_hit 38 = .ok (.getfield 88, 3) := by decide +kernel
theorem dX8_hit_41 : decode cX8_hit 41 = .ok (.iload_n 1, 1) := by decide +kernel
theorem dX8_hit_42 : decode cX8_hit 42 = .ok (.iadd, 1) := by decide +kernel
theorem dX8_hit_43 : decode cX8_hit 43 = .ok (.iastore, 1) := by decide +kernel
theorem dX8_hit_44 : decode cX8_hit 44 = .ok (.aload_n 0, 1) := by decide +kernel
theorem dX8_hit_45 : decode cX8_hit 45 = .ok (.getfield 25, 3) := by decide +kernel
theorem dX8_hit_48 : decode cX8_hit 48 = .ok (.aload_n 0, 1) := by decide +kernel
theorem dX8_hit_49 : decode cX8_hit 49 = .ok (.getfield 88, 3) := by decide +kernel
theorem dX8_hit_52 : decode cX8_hit 52 = .ok (.iload_n 1, 1) := by decide +kernel
theorem dX8_hit_53 : decode cX8_hit 53 = .ok (.iadd, 1) := by decide +kernel
theorem dX8_hit_54 : decode cX8_hit 54 = .ok (.sipush 128, 3) := by decide +kernel
theorem dX8_hit_57 : decode cX8_hit 57 = .ok (.irem, 1) := by decide +kernel
theorem dX8_hit_58 : decode cX8_hit 58 = .ok (.iload_n 2, 1) := by decide +kernel
theorem dX8_hit_59 : decode cX8_hit 59 = .ok (.iastore, 1) := by decide +kernel
theorem dX8_hit_60 : decode cX8_hit 60 = .ok (.iconst 1, 1) := by decide +kernel
theorem dX8_hit_61 : decode cX8_hit 61 = .ok (.ireturn, 1) := by decide +kernel
set_option maxRecDepth 20000 in
theorem ggX8_pass_X8_nextBit : GoodIn wsX8_pass wsX8_nextBit := goodIn_r _ [12, 13, 14, 15, 16, 17, 18, 19, 20, 21, 11, 22, 23, 24, 25, 26, 27, 28, 29, 30, 31, 32, 33, 34, 35, 36, 37, 38, 95, 96, 97, 98, 99, 100, 101, 102, 103, 104, 105, 106, 107, 108, 109, 110, 111, 112, 113, 114, 115, 116, 117, 118, 119, 120, 121, 122, 123, 124, 125, 126, 127, 128, 129, 130, 131, 132] (by decide +kernel) (by decide +kernel)
set_option maxRecDepth 20000 in
theorem gX8_pass_X8_nextBit : GoodIn wsX8_pass (wsV RX8 91 RX8 yX8_nextBit wsX8_nextBit) := goodIn_app (goodIn_of _ (by decide +kernel)) ggX8_pass_X8_nextBit
set_option maxRecDepth 20000 in
theorem ggX8_pass_X8_keyOf : GoodIn wsX8_pass wsX8_keyOf := goodIn_r _ [41] (by decide +kernel) (by decide +kernel)
set_option maxRecDepth 20000 in
theorem gX8_pass_X8_keyOf : GoodIn wsX8_pass (va_wsS RX8 95 yX8_keyOf wsX8_keyOf) := goodIn_app (goodIn_of _ (by decide +kernel)) ggX8_pass_X8_keyOf
set_option maxRecDepth 20000 in
theorem ggX8_pass_X8_levelOf : GoodIn wsX8_pass wsX8_levelOf := goodIn_r _ [44] (by decide +kernel) (by decide +kernel)
set_option maxRecDepth 20000 in
theorem gX8_pass_X8_levelOf : GoodIn wsX8_pass (va_wsS RX8 101 yX8_levelOf wsX8_levelOf) := goodIn_app (goodIn_of _ (by decide +kernel)) ggX8_pass_X8_levelOf
set_option maxRecDepth 20000 in
theorem ggX8_pass_X8_follow : GoodIn wsX8_pass wsX8_follow := goodIn_r _ [48, 49, 50, 51, 52, 7, 53, 54, 55, 39, 40, 11, 41, 56, 57, 58, 59, 60, 61, 62, 63, 64, 65, 66, 67, 68, 69, 70, 71, 72, 73, 74, 75, 76, 77, 78, 79, 80, 81, 36, 37, 38, 82, 83, 84, 85, 24, 25, 86, 87, 88, 89, 90, 27, 28, 29, 30, 31, 95, 96, 97, 98, 99, 100, 101, 102, 103, 104, 105, 106, 107, 108, 109, 110, 111, 112, 113, 114, 115, 116, 117, 118, 119, 120, 121, 122, 123, 124, 125, 126, 127, 128, 129, 130, 131, 132] (by decide +kernel) (by decide +kernel)
set_option maxRecDepth 20000 in
theorem gX8_pass_X8_follow : GoodIn wsX8_pass (wsV RX8 110 RX8 yX8_follow wsX8_follow) := goodIn_app (goodIn_of _ (by decide +kernel)) ggX8_pass_X8_follow
set_option maxRecDepth 20000 in
theorem ggX8_pass_X8_seek : GoodIn wsX8_pass wsX8_seek := goodIn_r _ [94, 49, 53, 7, 51, 50, 39, 40, 11, 41, 62, 63, 64, 65, 52, 55, 54, 95, 96, 97, 98, 99, 100, 101, 102, 103, 104, 105, 106, 107, 108, 109, 110, 111, 112, 113, 114, 115, 116, 117, 118, 119, 120, 121, 122, 123, 124, 125, 126, 127, 128, 129, 130, 131, 132] (by decide +kernel) (by decide +kernel)
set_option maxRecDepth 20000 in
theorem gX8_pass_X8_seek : GoodIn wsX8_pass (wsV RX8 113 RX8 yX8_seek wsX8_seek) := goodIn_app (goodIn_of _ (by decide +kernel)) ggX8_pass_X8_seek
theorem dX8_pass_0 : decode cX8_pass 0 = .ok (.aload_n 0, 1) := by decide +kernel
theorem dX8_pass_1 : decode cX8_pass 1 = .ok (.dup, 1) := by decide +kernel
theorem dX8_pass_2 : decode cX8_pass 2 = .ok (.getfield 88, 3) := by decide +kernel
theorem dX8_pass_5 : decode cX8_pass 5 = .ok (.iconst 1, 1) := by decide +kernel
theorem dX8_pass_6 : decode cX8_pass 6 = .ok (.iadd, 1) := by decide +kernel
theorem dX8_pass_7 : decode cX8_pass 7 = .ok (.putfield 88, 3) := by decide +kernel
theorem dX8_pass_10 : decode cX8_pass 10 = .ok (.aload_n 0, 1) := by decide +kernel
theorem dX8_pass_11 : decode cX8_pass 11 = .ok (.invokevirtual 91, 3) := by decide +kernel
theorem dX8_pass_14 : decode cX8_pass 14 = .ok (.istore_n 1, 1) := by decide +kernel
theorem dX8_pass_15 : decode cX8_pass 15 = .ok (.aload_n 0, 1) := by decide +kernel
theorem dX8_pass_16 : decode cX8_pass 16 = .ok (.getfield 37, 3) := by decide +kernel
theorem dX8_pass_19 : decode cX8_pass 19 = .ok (.invokestatic 95, 3) := by decide +kernel
theorem dX8_pass_22 : decode cX8_pass 22 = .ok (.istore_n 2, 1) := by decide +kernel
theorem dX8_pass_23 : decode cX8_pass 23 = .ok (.aload_n 0, 1) := by decide +kernel
theorem dX8_pass_24 : decode cX8_pass 24 = .ok (.iconst 2, 1) := by decide +kernel
theorem dX8_pass_25 : decode cX8_pass 25 = .ok (.aload_n 0, 1) := by decide +kernel
theorem dX8_pass_26 : decode cX8_pass 26 = .ok (.getfield 37, 3) := by decide +kernel
theorem dX8_pass_29 : decode cX8_pass 29 = .ok (.imul, 1) := by decide +kernel
theorem dX8_pass_30 : decode cX8_pass 30 = .ok (.iload_n 2, 1) := by decide +kernel
theorem dX8_pass_31 : decode cX8_pass 31 = .ok (.iadd, 1) := by decide +kernel
theorem dX8_pass_32 : decode cX8_pass 32 = .ok (.sipush 2048, 3) := by decide +kernel
theorem dX8_pass_35 : decode cX8_pass 35 = .ok (.irem, 1) := by decide +kernel
theorem dX8_pass_36 : decode cX8_pass 36 = .ok (.putfield 37, 3) := by decide +kernel
theorem dX8_pass_39 : decode cX8_pass 39 = .ok (.iload_n 1, 1) := by decide +kernel
theorem dX8_pass_40 : decode cX8_pass 40 = .ok (.iload_n 2, 1) := by decide +kernel
theorem dX8_pass_41 : decode cX8_pass 41 = .ok (.if_icmp .eq 15, 3) := by decide +kernel
theorem dX8_pass_44 : decode cX8_pass 44 = .ok (.aload_n 0, 1) := by decide +kernel
theorem dX8_pass_45 : decode cX8_pass 45 = .ok (.aload_n 0, 1) := by decide +kernel
theorem dX8_pass_46 : decode cX8_pass 46 = .ok (.getfield 98, 3) := by decide +kernel
theorem dX8_pass_49 : decode cX8_pass 49 = .ok (.iconst 1, 1) := by decide +kernel
theorem dX8_pass_50 : decode cX8_pass 50 = .ok (.iadd, 1) := by decide +kernel
theorem dX8_pass_51 : decode cX8_pass 51 = .ok (.iconst 4, 1) := by decide +kernel
theorem dX8_pass_52 : decode cX8_pass 52 = .ok (.irem, 1) := by decide +kernel
theorem dX8_pass_53 : decode cX8_pass 53 = .ok (.putfield 98, 3) := by decide +kernel
theorem dX8_pass_56 : decode cX8_pass 56 = .ok (.aload_n 0, 1) := by decide +kernel
theorem dX8_pass_57 : decode cX8_pass 57 = .ok (.getfield 22, 3) := by decide +kernel
theorem dX8_pass_60 : decode cX8_pass 60 = .ok (.aload_n 0, 1) := by decide +kernel
theorem dX8_pass_61 : decode cX8_pass 61 = .ok (.getfield 88, 3) := by decide +kernel
theorem dX8_pass_64 : decode cX8_pass 64 = .ok (.sipush 128, 3) := by decide +kernel
theorem dX8_pass_67 : decode cX8_pass 67 = .ok (.irem, 1) := by decide +kernel
theorem dX8_pass_68 : decode cX8_pass 68 = .ok (.iaload, 1) := by decide +kernel
theorem dX8_pass_69 : decode cX8_pass 69 = .ok (.aload_n 0, 1) := by decide +kernel
theorem dX8_pass_70 : decode cX8_pass 70 = .ok (.getfield 88, 3) := by decide +kernel
theorem dX8_pass_73 : decode cX8_pass 73 = .ok (.if_icmp .ne 19, 3) := by decide +kernel
theorem dX8_pass_76 : decode cX8_pass 76 = .ok (.aload_n 0, 1) := by decide +kernel
theorem dX8_pass_77 : decode cX8_pass 77 = .ok (.getfield 25, 3) := by decide +kernel
theorem dX8_pass_80 : decode cX8_pass 80 = .ok (.aload_n 0, 1) := by decide +kernel
theorem dX8_pass_81 : decode cX8_pass 81 = .ok (.getfield 88, 3) := by decide +kernel
theorem dX8_pass_84 : decode cX8_pass 84 = .ok (.sipush 128, 3) := by decide +kernel
theorem dX8_pass_87 : decode cX8_pass 87 = .ok (.irem, 1) := by decide +kernel
theorem dX8_pass_88 : decode cX8_pass 88 = .ok (.iaload, 1) := by decide +kernel
theorem dX8_pass_89 : decode cX8_pass 89 = .ok (.goto 10, 3) := by decide +kernel
theorem dX8_pass_92 : decode cX8_pass 92 = .ok (.aload_n 0, 1) := by decide +kernel
theorem dX8_pass_93 : decode cX8_pass 93 = .ok (.getfield 98, 3) := by decide +kernel
theorem dX8_pass_96 : decode cX8_pass 96 = .ok (.invokestatic 101, 3) := by decide +kernel
theorem dX8_pass_99 : decode cX8_pass 99 = .ok (.istore_n 3, 1) := by decide +kernel
theorem dX8_pass_100 : decode cX8_pass 100 = .ok (.iload_n 3, 1) := by decide +kernel
theorem dX8_pass_101 : decode cX8_pass 101 = .ok (.aload_n 0, 1) := by decide +kernel
theorem dX8_pass_102 : decode cX8_pass 102 = .ok (.getfield 104, 3) := by decide +kernel
theorem dX8_pass_105 : decode cX8_pass 105 = .ok (.if_icmp .eq 7, 3) := by decide +kernel
theorem dX8_pass_108 : decode cX8_pass 108 = .ok (.iconst 1, 1) := by decide +kernel
theorem dX8_pass_109 : decode cX8_pass 109 = .ok (.goto 4, 3) := by decide +kernel
theorem dX8_pass_112 : decode cX8_pass 112 = .ok (.iconst 0, 1) := by decide +kernel
theorem dX8_pass_113 : decode cX8_pass 113 = .ok (.istore 4, 2) := by decide +kernel
theorem dX8_pass_115 : decode cX8_pass 115 = .ok (.aload_n 0, 1) := by decide +kernel
theorem dX8_pass_116 : decode cX8_pass 116 = .ok (.iload_n 3, 1) := by decide +kernel
theorem dX8_pass_117 : decode cX8_pass 117 = .ok (.putfield 104, 3) := by decide +kernel
theorem dX8_pass_120 : decode cX8_pass 120 = .ok (.aload_n 0, 1) := by decide +kernel
theorem dX8_pass_121 : decode cX8_pass 121 = .ok (.getfield 107, 3) := by decide +kernel
theorem dX8_pass_124 : decode cX8_pass 124 = .ok (.ifCond .eq 12, 3) := by decide +kernel
theorem dX8_pass_127 : decode cX8_pass 127 = .ok (.aload_n 0, 1) := by decide +kernel
theorem dX8_pass_128 : decode cX8_pass 128 = .ok (.iload 4, 2) := by decide +kernel
theorem dX8_pass_130 : decode cX8_pass 130 = .ok (.invokevirtual 110, 3) := by decide +kernel
theorem dX8_pass_133 : decode cX8_pass 133 = .ok (.goto 9, 3) := by decide +kernel
theorem dX8_pass_136 : decode cX8_pass 136 = .ok (.aload_n 0, 1) := by decide +kernel
theorem dX8_pass_137 : decode cX8_pass 137 = .ok (.iload 4, 2) := by decide +kernel
theorem dX8_pass_139 : decode cX8_pass 139 = .ok (.invokevirtual 113, 3) := by decide +kernel
theorem dX8_pass_142 : decode cX8_pass 142 = .ok (.return_, 1) := by decide +kernel
set_option maxRecDepth 20000 in
theorem ggX8_seek_X8_keyOf : GoodIn wsX8_seek wsX8_keyOf := goodIn_r _ [9] (by decide +kernel) (by decide +kernel)
set_option maxRecDepth 20000 in
theorem gX8_seek_X8_keyOf : GoodIn wsX8_seek (va_wsS RX8 95 yX8_keyOf wsX8_keyOf) := goodIn_app (goodIn_of _ (by decide +kernel)) ggX8_seek_X8_keyOf
set_option maxRecDepth 20000 in
theorem ggX8_seek_X8_hunt : GoodIn wsX8_seek wsX8_hunt := goodIn_r _ [13, 14, 15, 16, 17, 18, 19, 20, 21, 22, 23, 24, 25, 26, 27, 28, 29, 30, 31, 32, 33, 34, 35, 36, 37, 38, 39, 40, 41, 42, 43, 44, 45, 46, 47, 48, 49, 50, 51, 52, 53, 54] (by decide +kernel) (by decide +kernel)
set_option maxRecDepth 20000 in
theorem gX8_seek_X8_hunt : GoodIn wsX8_seek (wsV RX8 128 RX8 yX8_hunt wsX8_hunt) := goodIn_app (goodIn_of _ (by decide +kernel)) ggX8_seek_X8_hunt
theorem dX8_seek_0 : decode cX8_seek 0 = .ok (.aload_n 0, 1) := by decide +kernel
theorem dX8_seek_1 : decode cX8_seek 1 = .ok (.getfield 116, 3) := by decide +kernel
theorem dX8_seek_4 : decode cX8_seek 4 = .ok (.invokestatic 95, 3) := by decide +kernel
theorem dX8_seek_7 : decode cX8_seek 7 = .ok (.istore_n 2, 1) := by decide +kernel
theorem dX8_seek_8 : decode cX8_seek 8 = .ok (.aload_n 0, 1) := by decide +kernel
theorem dX8_seek_9 : decode cX8_seek 9 = .ok (.iload_n 2, 1) := by decide +kernel
theorem dX8_seek_10 : decode cX8_seek 10 = .ok (.iload_n 1, 1) := by decide +kernel
theorem dX8_seek_11 : decode cX8_seek 11 = .ok (.if_icmp .eq 12, 3) := by decide +kernel
theorem dX8_seek_14 : decode cX8_seek 14 = .ok (.aload_n 0, 1) := by decide +kernel
theorem dX8_seek_15 : decode cX8_seek 15 = .ok (.getfield 119, 3) := by decide +kernel
theorem dX8_seek_18 : decode cX8_seek 18 = .ok (.iconst 1, 1) := by decide +kernel
theorem dX8_seek_19 : decode cX8_seek 19 = .ok (.iadd, 1) := by decide +kernel
theorem dX8_seek_20 : decode cX8_seek 20 = .ok (.goto 4, 3) := by decide +kernel
theorem dX8_seek_23 : decode cX8_seek 23 = .ok (.iconst 0, 1) := by decide +kernel
theorem dX8_seek_24 : decode cX8_seek 24 = .ok (.putfield 119, 3) := by decide +kernel
theorem dX8_seek_27 : decode cX8_seek 27 = .ok (.aload_n 0, 1) := by decide +kernel
theorem dX8_seek_28 : decode cX8_seek 28 = .ok (.iconst 2, 1) := by decide +kernel
theorem dX8_seek_29 : decode cX8_seek 29 = .ok (.aload_n 0, 1) := by decide +kernel
theorem dX8_seek_30 : decode cX8_seek 30 = .ok (.getfield 116, 3) := by decide +kernel
theorem dX8_seek_33 : decode cX8_seek 33 = .ok (.imul, 1) := by decide +kernel
theorem dX8_seek_34 : decode cX8_seek 34 = .ok (.iconst 1, 1) := by decide +kernel
theorem dX8_seek_35 : decode cX8_seek 35 = .ok (.iadd, 1) := by decide +kernel
theorem dX8_seek_36 : decode cX8_seek 36 = .ok (.iload_n 1, 1) := by decide +kernel
theorem dX8_seek_37 : decode cX8_seek 37 = .ok (.isub, 1) := by decide +kernel
theorem dX8_seek_38 : decode cX8_seek 38 = .ok (.sipush 2048, 3) := by decide +kernel
theorem dX8_seek_41 : decode cX8_seek 41 = .ok (.irem, 1) := by decide +kernel
theorem dX8_seek_42 : decode cX8_seek 42 = .ok (.putfield 116, 3) := by decide +kernel
theorem dX8_seek_45 : decode cX8_seek 45 = .ok (.aload_n 0, 1) := by decide +kernel
theorem dX8_seek_46 : decode cX8_seek 46 = .ok (.getfield 119, 3) := by decide +kernel
theorem dX8_seek_49 : decode cX8_seek 49 = .ok (.bipush 30, 2) := by decide +kernel
theorem dX8_seek_51 : decode cX8_seek 51 = .ok (.if_icmp .ne 22, 3) := by decide +kernel
theorem dX8_seek_54 : decode cX8_seek 54 = .ok (.aload_n 0, 1) := by decide +kernel
theorem dX8_seek_55 : decode cX8_seek 55 = .ok (.iconst 1, 1) := by decide +kernel
theorem dX8_seek_56 : decode cX8_seek 56 = .ok (.putfield 107, 3) := by decide +kernel
theorem dX8_seek_59 : decode cX8_seek 59 = .ok (.aload_n 0, 1) := by decide +kernel
theorem dX8_seek_60 : decode cX8_seek 60 = .ok (.iconst 0, 1) := by decide +kernel
theorem dX8_seek_61 : decode cX8_seek 61 = .ok (.putfield 122, 3) := by decide +kernel
theorem dX8_seek_64 : decode cX8_seek 64 = .ok (.aload_n 0, 1) := by decide +kernel
theorem dX8_seek_65 : decode cX8_seek 65 = .ok (.iconst 0, 1) := by decide +kernel
theorem dX8_seek_66 : decode cX8_seek 66 = .ok (.putfield 125, 3) := by decide +kernel
theorem dX8_seek_69 : decode cX8_seek 69 = .ok (.aload_n 0, 1) := by decide +kernel
theorem dX8_seek_70 : decode cX8_seek 70 = .ok (.invokevirtual 128, 3) := by decide +kernel
theorem dX8_seek_73 : decode cX8_seek 73 = .ok (.return_, 1) := by decide +kernel
theorem dX8_hunt_0 : decode cX8_hunt 0 = .ok (.aload_n 0, 1) := by decide +kernel
theorem dX8_hunt_1 : decode cX8_hunt 1 = .ok (.iconst 0, 1) := by decide +kernel
theorem dX8_hunt_2 : decode cX8_hunt 2 = .ok (.putfield 131, 3) := by decide +kernel
theorem dX8_hunt_5 : decode cX8_hunt 5 = .ok (.aload_n 0, 1) := by decide +kernel
theorem dX8_hunt_6 : decode cX8_hunt 6 = .ok (.iconst 0, 1) := by decide +kernel
theorem dX8_hunt_7 : decode cX8_hunt 7 = .ok (.putfield 134, 3) := by decide +kernel
theorem dX8_hunt_10 : decode cX8_hunt 10 = .ok (.aload_n 0, 1) := by decide +kernel
theorem dX8_hunt_11 : decode cX8_hunt 11 = .ok (.iconst 0, 1) := by decide +kernel
theorem dX8_hunt_12 : decode cX8_hunt 12 = .ok (.putfield 137, 3) := by decide +kernel
theorem dX8_hunt_15 : decode cX8_hunt 15 = .ok (.return_, 1) := by decide +kernel
set_option maxRecDepth 20000 in
theorem ggX8_end_X8_hunt : GoodIn wsX8_end wsX8_hunt := goodIn_r _ [7, 8, 9, 10, 11, 12, 13, 14, 15, 16, 17, 18, 19, 20, 21, 22, 23, 24, 25, 26, 27, 28, 29, 30, 31, 32, 33, 34, 35, 36, 37, 38, 39, 40, 41, 42, 43, 44, 45, 46, 47, 48] (by decide +kernel) (by decide +kernel)
set_option maxRecDepth 20000 in
theorem gX8_end_X8_hunt : GoodIn wsX8_end (wsV RX8 128 RX8 yX8_hunt wsX8_hunt) := goodIn_app (goodIn_of _ (by decide +kernel)) ggX8_end_X8_hunt
theorem dX8_end_0 : decode cX8_end 0 = .ok (.aload_n 0, 1) := by decide +kernel
theorem dX8_end_1 : decode cX8_end 1 = .ok (.getfield 31, 3) := by decide +kernel
theorem dX8_end_4 : decode cX8_end 4 = .ok (.iload_n 1, 1) := by decide +kernel
theorem dX8_end_5 : decode cX8_end 5 = .ok (.dup2, 1) := by decide +kernel
theorem dX8_end_6 : decode cX8_end 6 = .ok (.iaload, 1) := by decide +kernel
theorem dX8_end_7 : decode cX8_end 7 = .ok (.iconst 1, 1) := by decide +kernel
theorem dX8_end_8 : decode cX8_end 8 = .ok (.iadd, 1) := by decide +kernel
theorem dX8_end_9 : decode cX8_end 9 = .ok (.iastore, 1) := by decide +kernel
theorem dX8_end_10 : decode cX8_end 10 = .ok (.aload_n 0, 1) := by decide +kernel
theorem dX8_end_11 : decode cX8_end 11 = .ok (.dup, 1) := by decide +kernel
theorem dX8_end_12 : decode cX8_end 12 = .ok (.getfield 140, 3) := by decide +kernel
theorem dX8_end_15 : decode cX8_end 15 = .ok (.iconst 1, 1) := by decide +kernel
theorem dX8_end_16 : decode cX8_end 16 = .ok (.iadd, 1) := by decide +kernel
theorem dX8_end_17 : decode cX8_end 17 = .ok (.putfield 140, 3) := by decide +kernel
theorem dX8_end_20 : decode cX8_end 20 = .ok (.aload_n 0, 1) := by decide +kernel
theorem dX8_end_21 : decode cX8_end 21 = .ok (.invokevirtual 128, 3) := by decide +kernel
theorem dX8_end_24 : decode cX8_end 24 = .ok (.return_, 1) := by decide +kernel
set_option maxRecDepth 20000 in
theorem ggX8_follow_X8_keyOf : GoodIn wsX8_follow wsX8_keyOf := goodIn_r _ [12] (by decide +kernel) (by decide +kernel)
set_option maxRecDepth 20000 in
theorem gX8_follow_X8_keyOf : GoodIn wsX8_follow (va_wsS RX8 95 yX8_keyOf wsX8_keyOf) := goodIn_app (goodIn_of _ (by decide +kernel)) ggX8_follow_X8_keyOf
set_option maxRecDepth 20000 in
theorem ggX8_follow_X8_end : GoodIn wsX8_follow wsX8_end := goodIn_r _ [16, 17, 18, 19, 20, 21, 11, 22, 4, 8, 7, 58, 59, 60, 61, 62, 63, 64, 65, 66, 67, 68, 69, 70, 71, 72, 73, 74, 75, 76, 77, 78, 79, 80, 81, 82, 83, 84, 85, 86, 87, 88, 89, 90, 91, 92, 93, 94, 95] (by decide +kernel) (by decide +kernel)
set_option maxRecDepth 20000 in
theorem gX8_follow_X8_end : GoodIn wsX8_follow (wsV RX8 143 RX8 yX8_end wsX8_end) := goodIn_app (goodIn_of _ (by decide +kernel)) ggX8_follow_X8_end
set_option maxRecDepth 20000 in
theorem ggX8_follow_X8_begin : GoodIn wsX8_follow wsX8_begin := goodIn_r _ [26, 4, 8, 27, 28, 29, 30, 58, 59, 60, 61, 62, 63, 64, 65, 66, 67, 68, 69, 70, 71, 72, 73, 74, 75, 76, 77, 78, 79, 80, 81, 82, 83, 84, 85, 86, 87, 88, 89, 90, 91, 92, 93, 94, 95] (by decide +kernel) (by decide +kernel)
set_option maxRecDepth 20000 in
theorem gX8_follow_X8_begin : GoodIn wsX8_follow (wsV RX8 146 RX8 yX8_begin wsX8_begin) := goodIn_app (goodIn_of _ (by decide +kernel)) ggX8_follow_X8_begin
set_option maxRecDepth 20000 in
theorem ggX8_follow_X8_take : GoodIn wsX8_follow wsX8_take := goodIn_r _ [34, 27, 29, 28, 35, 30, 36, 37, 11, 38, 39, 40, 41, 42, 43, 44, 45, 46, 47, 48, 49, 50, 51, 52, 53, 54, 55, 56, 57, 13, 14, 15, 16, 17, 18, 19, 20, 21, 22, 4, 8, 7, 58, 59, 60, 61, 62, 63, 64, 65, 66, 67, 68, 69, 70, 71, 72, 73, 74, 75, 76, 77, 78, 79, 80, 81, 82, 83, 84, 85, 86, 87, 88, 89, 90, 91, 92, 93, 94, 95] (by decide +kernel) (by decide +kernel)
set_option maxRecDepth 20000 in
theorem gX8_follow_X8_take : GoodIn wsX8_follow (wsV RX8 149 RX8 yX8_take wsX8_take) := goodIn_app (goodIn_of _ (by decide +kernel)) ggX8_follow_X8_take
theorem dX8_follow_0 : decode cX8_follow 0 = .ok (.aload_n 0, 1) := by decide +kernel
theorem dX8_follow_1 : decode cX8_follow 1 = .ok (.getfield 116, 3) := by decide +kernel
theorem dX8_follow_4 : decode cX8_follow 4 = .ok (.invokestatic 95, 3) := by decide +kernel
theorem dX8_follow_7 : decode cX8_follow 7 = .ok (.istore_n 2, 1) := by decide +kernel
theorem dX8_follow_8 : decode cX8_follow 8 = .ok (.iload_n 1, 1) := by decide +kernel
theorem dX8_follow_9 : decode cX8_follow 9 = .ok (.iload_n 2, 1) := by decide +kernel
theorem dX8_follow_10 : decode cX8_follow 10 = .ok (.ixor, 1) := by decide +kernel
theorem dX8_follow_11 : decode cX8_follow 11 = .ok (.istore_n 3, 1) := by decide +kernel
theorem dX8_follow_12 : decode cX8_follow 12 = .ok (.aload_n 0, 1) := by decide +kernel
theorem dX8_follow_13 : decode cX8_follow 13 = .ok (.iconst 2, 1) := by decide +kernel
theorem dX8_follow_14 : decode cX8_follow 14 = .ok (.aload_n 0, 1) := by decide +kernel
theorem dX8_follow_15 : decode cX8_follow 15 = .ok (.getfield 116, 3) := by decide +kernel
theorem dX8_follow_18 : decode cX8_follow 18 = .ok (.imul, 1) := by decide +kernel
theorem dX8_follow_19 : decode cX8_follow 19 = .ok (.iload_n 2, 1) := by decide +kernel
theorem dX8_follow_20 : decode cX8_follow 20 = .ok (.iadd, 1) := by decide +kernel
theorem dX8_follow_21 : decode cX8_follow 21 = .ok (.sipush 2048, 3) := by decide +kernel
theorem dX8_follow_24 : decode cX8_follow 24 = .ok (.irem, 1) := by decide +kernel
theorem dX8_follow_25 : decode cX8_follow 25 = .ok (.putfield 116, 3) := by decide +kernel
theorem dX8_follow_28 : decode cX8_follow 28 = .ok (.aload_n 0, 1) := by decide +kernel
theorem dX8_follow_29 : decode cX8_follow 29 = .ok (.iload_n 3, 1) := by decide +kernel
theorem dX8_follow_30 : decode cX8_follow 30 = .ok (.iconst 1, 1) := by decide +kernel
theorem dX8_follow_31 : decode cX8_follow 31 = .ok (.if_icmp .ne 12, 3) := by decide +kernel
theorem dX8_follow_34 : decode cX8_follow 34 = .ok (.aload_n 0, 1) := by decide +kernel
theorem dX8_follow_35 : decode cX8_follow 35 = .ok (.getfield 125, 3) := by decide +kernel
theorem dX8_follow_38 : decode cX8_follow 38 = .ok (.iconst 1, 1) := by decide +kernel
theorem dX8_follow_39 : decode cX8_follow 39 = .ok (.iadd, 1) := by decide +kernel
theorem dX8_follow_40 : decode cX8_follow 40 = .ok (.goto 4, 3) := by decide +kernel
theorem dX8_follow_43 : decode cX8_follow 43 = .ok (.iconst 0, 1) := by decide +kernel
theorem dX8_follow_44 : decode cX8_follow 44 = .ok (.putfield 125, 3) := by decide +kernel
theorem dX8_follow_47 : decode cX8_follow 47 = .ok (.aload_n 0, 1) := by decide +kernel
theorem dX8_follow_48 : decode cX8_follow 48 = .ok (.aload_n 0, 1) := by decide +kernel
theorem dX8_follow_49 : decode cX8_follow 49 = .ok (.getfield 125, 3) := by decide +kernel
theorem dX8_follow_52 : decode cX8_follow 52 = .ok (.bipush 10, 2) := by decide +kernel
theorem dX8_follow_54 : decode cX8_follow 54 = .ok (.if_icmp .lt 7, 3) := by decide +kernel
theorem dX8_follow_57 : decode cX8_follow 57 = .ok (.iconst 0, 1) := by decide +kernel
theorem dX8_follow_58 : decode cX8_follow 58 = .ok (.goto 9, 3) := by decide +kernel
theorem dX8_follow_61 : decode cX8_follow 61 = .ok (.aload_n 0, 1) := by decide +kernel
theorem dX8_follow_62 : decode cX8_follow 62 = .ok (.getfield 122, 3) := by decide +kernel
theorem dX8_follow_65 : decode cX8_follow 65 = .ok (.iconst 1, 1) := by decide +kernel
theorem dX8_follow_66 : decode cX8_follow 66 = .ok (.iadd, 1) := by decide +kernel
theorem dX8_follow_67 : decode cX8_follow 67 = .ok (.putfield 122, 3) := by decide +kernel
theorem dX8_follow_70 : decode cX8_follow 70 = .ok (.aload_n 0, 1) := by decide +kernel
theorem dX8_follow_71 : decode cX8_follow 71 = .ok (.getfield 122, 3) := by decide +kernel
theorem dX8_follow_74 : decode cX8_follow 74 = .ok (.sipush 400, 3) := by decide +kernel
theorem dX8_follow_77 : decode cX8_follow 77 = .ok (.if_icmp .ne 27, 3) := by decide +kernel
theorem dX8_follow_80 : decode cX8_follow 80 = .ok (.aload_n 0, 1) := by decide +kernel
theorem dX8_follow_81 : decode cX8_follow 81 = .ok (.getfield 131, 3) := by decide +kernel
theorem dX8_follow_84 : decode cX8_follow 84 = .ok (.ifCond .eq 9, 3) := by decide +kernel
theorem dX8_follow_87 : decode cX8_follow 87 = .ok (.aload_n 0, 1) := by decide +kernel
theorem dX8_follow_88 : decode cX8_follow 88 = .ok (.bipush 10, 2) := by decide +kernel
theorem dX8_follow_90 : decode cX8_follow 90 = .ok (.invokevirtual 143, 3) := by decide +kernel
theorem dX8_follow_93 : decode cX8_follow 93 = .ok (.aload_n 0, 1) := by decide +kernel
theorem dX8_follow_94 : decode cX8_follow 94 = .ok (.iconst 0, 1) := by decide +kernel
theorem dX8_follow_95 : decode cX8_follow 95 = .ok (.putfield 107, 3) := by decide +kernel
theorem dX8_follow_98 : decode cX8_follow 98 = .ok (.aload_n 0, 1) := by decide +kernel
theorem dX8_follow_99 : decode cX8_follow 99 = .ok (.iconst 0, 1) := by decide +kernel
theorem dX8_follow_100 : decode cX8_follow 100 = .ok (.putfield 119, 3) := by decide +kernel
theorem dX8_follow_103 : decode cX8_follow 103 = .ok (.return_, 1) := by decide +kernel
theorem dX8_follow_104 : decode cX8_follow 104 = .ok (.aload_n 0, 1) := by decide +kernel
theorem dX8_follow_105 : decode cX8_follow 105 = .ok (.iconst 2, 1) := by decide +kernel
theorem dX8_follow_106 : decode cX8_follow 106 = .ok (.aload_n 0, 1) := by decide +kernel
theorem dX8_follow_107 : decode cX8_follow 107 = .ok (.getfield 137, 3) := by decide +kernel
theorem dX8_follow_110 : decode cX8_follow 110 = .ok (.imul, 1) := by decide +kernel
theorem dX8_follow_111 : decode cX8_follow 111 = .ok (.iload_n 3, 1) := by decide +kernel
theorem dX8_follow_112 : decode cX8_follow 112 = .ok (.iadd, 1) := by decide +kernel
theorem dX8_follow_113 : decode cX8_follow 113 = .ok (.sipush 1024, 3) := by decide +kernel
theorem dX8_follow_116 : decode cX8_follow 116 = .ok (.irem, 1) := by decide +kernel
theorem dX8_follow_117 : decode cX8_follow 117 = .ok (.putfield 137, 3) := by decide +kernel
theorem dX8_follow_120 : decode cX8_follow 120 = .ok (.aload_n 0, 1) := by decide +kernel
theorem dX8_follow_121 : decode cX8_follow 121 = .ok (.dup, 1) := by decide +kernel
theorem dX8_follow_122 : decode cX8_follow 122 = .ok (.getfield 134, 3) := by decide +kernel
theorem dX8_follow_125 : decode cX8_follow 125 = .ok (.iconst 1, 1) := by decide +kernel
theorem dX8_follow_126 : decode cX8_follow 126 = .ok (.iadd, 1) := by decide +kernel
theorem dX8_follow_127 : decode cX8_follow 127 = .ok (.putfield 134, 3) := by decide +kernel
theorem dX8_follow_130 : decode cX8_follow 130 = .ok (.aload_n 0, 1) := by decide +kernel
theorem dX8_follow_131 : decode cX8_follow 131 = .ok (.getfield 131, 3) := by decide +kernel
theorem dX8_follow_134 : decode cX8_follow 134 = .ok (.ifCond .ne 29, 3) := by decide +kernel
theorem dX8_follow_137 : decode cX8_follow 137 = .ok (.aload_n 0, 1) := by decide +kernel
theorem dX8_follow_138 : decode cX8_follow 138 = .ok (.getfield 134, 3) := by decide +kernel
theorem dX8_follow_141 : decode cX8_follow 141 = .ok (.bipush 10, 2) := by decide +kernel
theorem dX8_follow_143 : decode cX8_follow 143 = .ok (.if_icmp .lt 40, 3) := by decide +kernel
theorem dX8_follow_146 : decode cX8_follow 146 = .ok (.aload_n 0, 1) := by decide +kernel
theorem dX8_follow_147 : decode cX8_follow 147 = .ok (.getfield 137, 3) := by decide +kernel
theorem dX8_follow_150 : decode cX8_follow 150 = .ok (.sipush 785, 3) := by decide +kernel
theorem dX8_follow_153 : decode cX8_follow 153 = .ok (.if_icmp .ne 30, 3) := by decide +kernel
theorem dX8_follow_156 : decode cX8_follow 156 = .ok (.aload_n 0, 1) := by decide +kernel
theorem dX8_follow_157 : decode cX8_follow 157 = .ok (.invokevirtual 146, 3) := by decide +kernel
theorem dX8_follow_160 : decode cX8_follow 160 = .ok (.goto 23, 3) := by decide +kernel
theorem dX8_follow_163 : decode cX8_follow 163 = .ok (.aload_n 0, 1) := by decide +kernel
theorem dX8_follow_164 : decode cX8_follow 164 = .ok (.getfield 134, 3) := by decide +kernel
theorem dX8_follow_167 : decode cX8_follow 167 = .ok (.iconst 5, 1) := by decide +kernel
theorem dX8_follow_168 : decode cX8_follow 168 = .ok (.irem, 1) := by decide +kernel
theorem dX8_follow_169 : decode cX8_follow 169 = .ok (.ifCond .ne 14, 3) := by decide +kernel
theorem dX8_follow_172 : decode cX8_follow 172 = .ok (.aload_n 0, 1) := by decide +kernel
theorem dX8_follow_173 : decode cX8_follow 173 = .ok (.aload_n 0, 1) := by decide +kernel
theorem dX8_follow_174 : decode cX8_follow 174 = .ok (.getfield 137, 3) := by decide +kernel
theorem dX8_follow_177 : decode cX8_follow 177 = .ok (.bipush 32, 2) := by decide +kernel
theorem dX8_follow_179 : decode cX8_follow 179 = .ok (.irem, 1) := by decide +kernel
theorem dX8_follow_180 : decode cX8_follow 180 = .ok (.invokevirtual 149, 3) := by decide +kernel
theorem dX8_follow_183 : decode cX8_follow 183 = .ok (.return_, 1) := by decide +kernel
theorem dX8_begin_0 : decode cX8_begin 0 = .ok (.aload_n 0, 1) := by decide +kernel
theorem dX8_begin_1 : decode cX8_begin 1 = .ok (.iconst 1, 1) := by decide +kernel
theorem dX8_begin_2 : decode cX8_begin 2 = .ok (.putfield 131, 3) := by decide +kernel
theorem dX8_begin_5 : decode cX8_begin 5 = .ok (.aload_n 0, 1) := by decide +kernel
theorem dX8_begin_6 : decode cX8_begin 6 = .ok (.iconst 0, 1) := by decide +kernel
theorem dX8_begin_7 : decode cX8_begin 7 = .ok (.putfield 134, 3) := by decide +kernel
theorem dX8_begin_10 : decode cX8_begin 10 = .ok (.aload_n 0, 1) := by decide +kernel
theorem dX8_begin_11 : decode cX8_begin 11 = .ok (.iconst 0, 1) := by decide +kernel
theorem dX8_begin_12 : decode cX8_begin 12 = .ok (.putfield 152, 3) := by decide +kernel
theorem dX8_begin_15 : decode cX8_begin 15 = .ok (.aload_n 0, 1) := by decide +kernel
theorem dX8_begin_16 : decode cX8_begin 16 = .ok (.iconst 0, 1) := by decide +kernel
theorem dX8_begin_17 : decode cX8_begin 17 = .ok (.putfield 155, 3) := by decide +kernel
theorem dX8_begin_20 : decode cX8_begin 20 = .ok (.aload_n 0, 1) := by decide +kernel
theorem dX8_begin_21 : decode cX8_begin 21 = .ok (.iconst 0, 1) := by decide +kernel
theorem dX8_begin_22 : decode cX8_begin 22 = .ok (.putfield 158, 3) := by decide +kernel
theorem dX8_begin_25 : decode cX8_begin 25 = .ok (.aload_n 0, 1) := by decide +kernel
theorem dX8_begin_26 : decode cX8_begin 26 = .ok (.iconst 0, 1) := by decide +kernel
theorem dX8_begin_27 : decode cX8_begin 27 = .ok (.putfield 161, 3) := by decide +kernel
theorem dX8_begin_30 : decode cX8_begin 30 = .ok (.return_, 1) := by decide +kernel
set_option maxRecDepth 20000 in
theorem ggX8_take_X8_nibbleOf : GoodIn wsX8_take wsX8_nibbleOf := goodIn_r _ [9, 10, 11, 8, 12] (by decide +kernel) (by decide +kernel)
set_option maxRecDepth 20000 in
theorem gX8_take_X8_nibbleOf : GoodIn wsX8_take (va_wsS RX8 164 yX8_nibbleOf wsX8_nibbleOf) := goodIn_app (goodIn_of _ (by decide +kernel)) ggX8_take_X8_nibbleOf
set_option maxRecDepth 20000 in
theorem ggX8_take_X8_judge : GoodIn wsX8_take wsX8_judge := goodIn_r _ [16, 3, 2, 5, 17, 18, 4, 19, 20, 21, 22, 23, 24, 25, 26, 8, 27, 28, 42, 43, 44, 45, 46, 47, 48, 49, 50, 51, 52, 53, 54, 55, 56, 57, 58, 59, 60, 61, 62, 63, 64, 65, 66, 67, 68, 69, 70, 71, 72, 73, 74, 75, 76, 77, 78, 79] (by decide +kernel) (by decide +kernel)
set_option maxRecDepth 20000 in
theorem gX8_take_X8_judge : GoodIn wsX8_take (wsV RX8 167 RX8 yX8_judge wsX8_judge) := goodIn_app (goodIn_of _ (by decide +kernel)) ggX8_take_X8_judge
set_option maxRecDepth 20000 in
theorem ggX8_take_X8_end : GoodIn wsX8_take wsX8_end := goodIn_r _ [32, 33, 34, 35, 36, 37, 8, 38, 39, 40, 41, 42, 43, 44, 45, 46, 47, 48, 49, 50, 51, 52, 53, 54, 55, 56, 57, 58, 59, 60, 61, 62, 63, 64, 65, 66, 67, 68, 69, 70, 71, 72, 73, 74, 75, 76, 77, 78, 79] (by decide +kernel) (by decide +kernel)
set_option maxRecDepth 20000 in
theorem gX8_take_X8_end : GoodIn wsX8_take (wsV RX8 143 RX8 yX8_end wsX8_end) := goodIn_app (goodIn_of _ (by decide +kernel)) ggX8_take_X8_end
theorem dX8_take_0 : decode cX8_take 0 = .ok (.iload_n 1, 1) := by decide +kernel
theorem dX8_take_1 : decode cX8_take 1 = .ok (.invokestatic 164, 3) := by decide +kernel
theorem dX8_take_4 : decode cX8_take 4 = .ok (.istore_n 2, 1) := by decide +kernel
theorem dX8_take_5 : decode cX8_take 5 = .ok (.aload_n 0, 1) := by decide +kernel
theorem dX8_take_6 : decode cX8_take 6 = .ok (.getfield 152, 3) := by decide +kernel
theorem dX8_take_9 : decode cX8_take 9 = .ok (.ifCond .eq 25, 3) := by decide +kernel
theorem dX8_take_12 : decode cX8_take 12 = .ok (.aload_n 0, 1) := by decide +kernel
theorem dX8_take_13 : decode cX8_take 13 = .ok (.iload_n 1, 1) := by decide +kernel
theorem dX8_take_14 : decode cX8_take 14 = .ok (.bipush 7, 2) := by decide +kernel
theorem dX8_take_16 : decode cX8_take 16 = .ok (.if_icmp .ne 10, 3) := by decide +kernel
theorem dX8_take_19 : decode cX8_take 19 = .ok (.aload_n 0, 1) := by decide +kernel
theorem dX8_take_20 : decode cX8_take 20 = .ok (.invokevirtual 167, 3) := by decide +kernel
theorem dX8_take_23 : decode cX8_take 23 = .ok (.goto 5, 3) := by decide +kernel
theorem dX8_take_26 : decode cX8_take 26 = .ok (.bipush 9, 2) := by decide +kernel
theorem dX8_take_28 : decode cX8_take 28 = .ok (.invokevirtual 143, 3) := by decide +kernel
theorem dX8_take_31 : decode cX8_take 31 = .ok (.goto 116, 3) := by decide +kernel
theorem dX8_take_34 : decode cX8_take 34 = .ok (.iload_n 1, 1) := by decide +kernel
theorem dX8_take_35 : decode cX8_take 35 = .ok (.bipush 13, 2) := by decide +kernel
theorem dX8_take_37 : decode cX8_take 37 = .ok (.if_icmp .ne 11, 3) := by decide +kernel
theorem dX8_take_40 : decode cX8_take 40 = .ok (.aload_n 0, 1) := by decide +kernel
theorem dX8_take_41 : decode cX8_take 41 = .ok (.iconst 1, 1) := by decide +kernel
theorem dX8_take_42 : decode cX8_take 42 = .ok (.putfield 152, 3) := by decide +kernel
theorem dX8_take_45 : decode cX8_take 45 = .ok (.goto 102, 3) := by decide +kernel
theorem dX8_take_48 : decode cX8_take 48 = .ok (.iload_n 1, 1) := by decide +kernel
theorem dX8_take_49 : decode cX8_take 49 = .ok (.bipush 31, 2) := by decide +kernel
theorem dX8_take_51 : decode cX8_take 51 = .ok (.if_icmp .ne 12, 3) := by decide +kernel
theorem dX8_take_54 : decode cX8_take 54 = .ok (.aload_n 0, 1) := by decide +kernel
theorem dX8_take_55 : decode cX8_take 55 = .ok (.bipush 8, 2) := by decide +kernel
theorem dX8_take_57 : decode cX8_take 57 = .ok (.invokevirtual 143, 3) := by decide +kernel
theorem dX8_take_60 : decode cX8_take 60 = .ok (.goto 87, 3) := by decide +kernel
theorem dX8_take_63 : decode cX8_take 63 = .ok (.iload_n 2, 1) := by decide +kernel
theorem dX8_take_64 : decode cX8_take 64 = .ok (.ifCond .ge 11, 3) := by decide +kernel
theorem dX8_take_67 : decode cX8_take 67 = .ok (.aload_n 0, 1) := by decide +kernel
theorem dX8_take_68 : decode cX8_take 68 = .ok (.iconst 1, 1) := by decide +kernel
theorem dX8_take_69 : decode cX8_take 69 = .ok (.putfield 158, 3) := by decide +kernel
theorem dX8_take_72 : decode cX8_take 72 = .ok (.goto 75, 3) := by decide +kernel
theorem dX8_take_75 : decode cX8_take 75 = .ok (.aload_n 0, 1) := by decide +kernel
theorem dX8_take_76 : decode cX8_take 76 = .ok (.getfield 155, 3) := by decide +kernel
theorem dX8_take_79 : decode cX8_take 79 = .ok (.ifCond .eq 26, 3) := by decide +kernel
theorem dX8_take_82 : decode cX8_take 82 = .ok (.aload_n 0, 1) := by decide +kernel
theorem dX8_take_83 : decode cX8_take 83 = .ok (.getfield 28, 3) := by decide +kernel
theorem dX8_take_86 : decode cX8_take 86 = .ok (.aload_n 0, 1) := by decide +kernel
theorem dX8_take_87 : decode cX8_take 87 = .ok (.getfield 161, 3) := by decide +kernel
theorem dX8_take_90 : decode cX8_take 90 = .ok (.iload_n 2, 1) := by decide +kernel
theorem dX8_take_91 : decode cX8_take 91 = .ok (.iastore, 1) := by decide +kernel
theorem dX8_take_92 : decode cX8_take 92 = .ok (.aload_n 0, 1) := by decide +kernel
theorem dX8_take_93 : decode cX8_take 93 = .ok (.dup, 1) := by decide +kernel
theorem dX8_take_94 : decode cX8_take 94 = .ok (.getfield 161, 3) := by decide +kernel
theorem dX8_take_97 : decode cX8_take 97 = .ok (.iconst 1, 1) := by decide +kernel
theorem dX8_take_98 : decode cX8_take 98 = .ok (.iadd, 1) := by decide +kernel
theorem dX8_take_99 : decode cX8_take 99 = .ok (.putfield 161, 3) := by decide +kernel
theorem dX8_take_102 : decode cX8_take 102 = .ok (.goto 45, 3) := by decide +kernel
theorem dX8_take_105 : decode cX8_take 105 = .ok (.aload_n 0, 1) := by decide +kernel
theorem dX8_take_106 : decode cX8_take 106 = .ok (.iload_n 2, 1) := by decide +kernel
theorem dX8_take_107 : decode cX8_take 107 = .ok (.bipush 13, 2) := by decide +kernel
theorem dX8_take_109 : decode cX8_take 109 = .ok (.if_icmp .ne 7, 3) := by decide +kernel
theorem dX8_take_112 : decode cX8_take 112 = .ok (.iconst 1, 1) := by decide +kernel
theorem dX8_take_113 : decode cX8_take 113 = .ok (.goto 4, 3) := by decide +kernel
theorem dX8_take_116 : decode cX8_take 116 = .ok (.iconst 0, 1) := by decide +kernel
theorem dX8_take_117 : decode cX8_take 117 = .ok (.putfield 155, 3) := by decide +kernel
theorem dX8_take_120 : decode cX8_take 120 = .ok (.aload_n 0, 1) := by decide +kernel
theorem dX8_take_121 : decode cX8_take 121 = .ok (.aload_n 0, 1) := by decide +kernel
theorem dX8_take_122 : decode cX8_take 122 = .ok (.getfield 158, 3) := by decide +kernel
theorem dX8_take_125 : decode cX8_take 125 = .ok (.ifCond .ne 14, 3) := by decide +kernel
theorem dX8_take_128 : decode cX8_take 128 = .ok (.iload_n 2, 1) := by decide +kernel
theorem dX8_take_129 : decode cX8_take 129 = .ok (.bipush 13, 2) := by decide +kernel
theorem dX8_take_131 : decode cX8_take 131 = .ok (.if_icmp .eq 12, 3) := by decide +kernel
theorem dX8_take_134 : decode cX8_take 134 = .ok (.iload_n 2, 1) := by decide +kernel
theorem dX8_take_135 : decode cX8_take 135 = .ok (.iconst 5, 1) := by decide +kernel
theorem dX8_take_136 : decode cX8_take 136 = .ok (.if_icmp .eq 7, 3) := by decide +kernel
theorem dX8_take_139 : decode cX8_take 139 = .ok (.iconst 1, 1) := by decide +kernel
theorem dX8_take_140 : decode cX8_take 140 = .ok (.goto 4, 3) := by decide +kernel
theorem dX8_take_143 : decode cX8_take 143 = .ok (.iconst 0, 1) := by decide +kernel
theorem dX8_take_144 : decode cX8_take 144 = .ok (.putfield 158, 3) := by decide +kernel
theorem dX8_take_147 : decode cX8_take 147 = .ok (.return_, 1) := by decide +kernel
set_option maxRecDepth 20000 in
theorem ggX8_judge_X8_check : GoodIn wsX8_judge wsX8_check := goodIn_r _ [16, 5, 17, 18, 19, 20, 21, 22, 23, 24, 25, 26, 27, 28, 29, 30, 31, 32, 33, 34, 35, 36, 37, 38, 39, 40, 41, 42, 43, 44, 45, 46, 47, 48, 49, 50, 51, 52, 53, 54, 55] (by decide +kernel) (by decide +kernel)
set_option maxRecDepth 20000 in
theorem gX8_judge_X8_check : GoodIn wsX8_judge (wsV RX8 68 RX8 yX8_check wsX8_check) := goodIn_app (goodIn_of _ (by decide +kernel)) ggX8_judge_X8_check
theorem dX8_judge_0 : decode cX8_judge 0 = .ok (.aload_n 0, 1) := by decide +kernel
theorem dX8_judge_1 : decode cX8_judge 1 = .ok (.getfield 155, 3) := by decide +kernel
theorem dX8_judge_4 : decode cX8_judge 4 = .ok (.ifCond .ne 5, 3) := by decide +kernel
theorem dX8_judge_7 : decode cX8_judge 7 = .ok (.iconst 1, 1) := by decide +kernel
theorem dX8_judge_8 : decode cX8_judge 8 = .ok (.ireturn, 1) := by decide +kernel
theorem dX8_judge_9 : decode cX8_judge 9 = .ok (.aload_n 0, 1) := by decide +kernel
theorem dX8_judge_10 : decode cX8_judge 10 = .ok (.getfield 158, 3) := by decide +kernel
theorem dX8_judge_13 : decode cX8_judge 13 = .ok (.ifCond .eq 5, 3) := by decide +kernel
theorem dX8_judge_16 : decode cX8_judge 16 = .ok (.iconst 2, 1) := by decide +kernel
theorem dX8_judge_17 : decode cX8_judge 17 = .ok (.ireturn, 1) := by decide +kernel
theorem dX8_judge_18 : decode cX8_judge 18 = .ok (.aload_n 0, 1) := by decide +kernel
theorem dX8_judge_19 : decode cX8_judge 19 = .ok (.getfield 161, 3) := by decide +kernel
theorem dX8_judge_22 : decode cX8_judge 22 = .ok (.iconst 2, 1) := by decide +kernel
theorem dX8_judge_23 : decode cX8_judge 23 = .ok (.irem, 1) := by decide +kernel
theorem dX8_judge_24 : decode cX8_judge 24 = .ok (.iconst 1, 1) := by decide +kernel
theorem dX8_judge_25 : decode cX8_judge 25 = .ok (.if_icmp .ne 5, 3) := by decide +kernel
theorem dX8_judge_28 : decode cX8_judge 28 = .ok (.iconst 3, 1) := by decide +kernel
theorem dX8_judge_29 : decode cX8_judge 29 = .ok (.ireturn, 1) := by decide +kernel
theorem dX8_judge_30 : decode cX8_judge 30 = .ok (.aload_n 0, 1) := by decide +kernel
theorem dX8_judge_31 : decode cX8_judge 31 = .ok (.getfield 161, 3) := by decide +kernel
theorem dX8_judge_34 : decode cX8_judge 34 = .ok (.bipush 26, 2) := by decide +kernel
theorem dX8_judge_36 : decode cX8_judge 36 = .ok (.if_icmp .ge 5, 3) := by decide +kernel
theorem dX8_judge_39 : decode cX8_judge 39 = .ok (.iconst 4, 1) := by decide +kernel
theorem dX8_judge_40 : decode cX8_judge 40 = .ok (.ireturn, 1) := by decide +kernel
theorem dX8_judge_41 : decode cX8_judge 41 = .ok (.aload_n 0, 1) := by decide +kernel
theorem dX8_judge_42 : decode cX8_judge 42 = .ok (.aload_n 0, 1) := by decide +kernel
theorem dX8_judge_43 : decode cX8_judge 43 = .ok (.getfield 161, 3) := by decide +kernel
theorem dX8_judge_46 : decode cX8_judge 46 = .ok (.iconst 2, 1) := by decide +kernel
theorem dX8_judge_47 : decode cX8_judge 47 = .ok (.idiv, 1) := by decide +kernel
theorem dX8_judge_48 : decode cX8_judge 48 = .ok (.putfield 65, 3) := by decide +kernel
theorem dX8_judge_51 : decode cX8_judge 51 = .ok (.iconst 0, 1) := by decide +kernel
theorem dX8_judge_52 : decode cX8_judge 52 = .ok (.istore_n 1, 1) := by decide +kernel
theorem dX8_judge_53 : decode cX8_judge 53 = .ok (.iload_n 1, 1) := by decide +kernel
theorem dX8_judge_54 : decode cX8_judge 54 = .ok (.aload_n 0, 1) := by decide +kernel
theorem dX8_judge_55 : decode cX8_judge 55 = .ok (.getfield 65, 3) := by decide +kernel
theorem dX8_judge_58 : decode cX8_judge 58 = .ok (.if_icmp .ge 37, 3) := by decide +kernel
theorem dX8_judge_61 : decode cX8_judge 61 = .ok (.aload_n 0, 1) := by decide +kernel
theorem dX8_judge_62 : decode cX8_judge 62 = .ok (.getfield 19, 3) := by decide +kernel
theorem dX8_judge_65 : decode cX8_judge 65 = .ok (.iload_n 1, 1) := by decide +kernel
theorem dX8_judge_66 : decode cX8_judge 66 = .ok (.aload_n 0, 1) := by decide +kernel
theorem dX8_judge_67 : decode cX8_judge 67 = .ok (.getfield 28, 3) := by decide +kernel
theorem dX8_judge_70 : decode cX8_judge 70 = .ok (.iconst 2, 1) := by decide +kernel
theorem dX8_judge_71 : decode cX8_judge 71 = .ok (.iload_n 1, 1) := by decide +kernel
theorem dX8_judge_72 : decode cX8_judge 72 = .ok (.imul, 1) := by decide +kernel
theorem dX8_judge_73 : decode cX8_judge 73 = .ok (.iaload, 1) := by decide +kernel
theorem dX8_judge_74 : decode cX8_judge 74 = .ok (.bipush 16, 2) := by decide +kernel
theorem dX8_judge_76 : decode cX8_judge 76 = .ok (.aload_n 0, 1) := by decide +kernel
theorem dX8_judge_77 : decode cX8_judge 77 = .ok (.getfield 28, 3) := by decide +kernel
theorem dX8_judge_80 : decode cX8_judge 80 = .ok (.iconst 2, 1) := by decide +kernel
theorem dX8_judge_81 : decode cX8_judge 81 = .ok (.iload_n 1, 1) := by decide +kernel
theorem dX8_judge_82 : decode cX8_judge 82 = .ok (.imul, 1) := by decide +kernel
theorem dX8_judge_83 : decode cX8_judge 83 = .ok (.iconst 1, 1) := by decide +kernel
theorem dX8_judge_84 : decode cX8_judge 84 = .ok (.iadd, 1) := by decide +kernel
theorem dX8_judge_85 : decode cX8_judge 85 = .ok (.iaload, 1) := by decide +kernel
theorem dX8_judge_86 : decode cX8_judge 86 = .ok (.imul, 1) := by decide +kernel
theorem dX8_judge_87 : decode cX8_judge 87 = .ok (.iadd, 1) := by decide +kernel
theorem dX8_judge_88 : decode cX8_judge 88 = .ok (.iastore, 1) := by decide +kernel
theorem dX8_judge_89 : decode cX8_judge 89 = .ok (.iinc 1 1, 3) := by decide +kernel
theorem dX8_judge_92 : decode cX8_judge 92 = .ok (.goto (-39), 3) := by decide +kernel
theorem dX8_judge_95 : decode cX8_judge 95 = .ok (.aload_n 0, 1) := by decide +kernel
theorem dX8_judge_96 : decode cX8_judge 96 = .ok (.aload_n 0, 1) := by decide +kernel
theorem dX8_judge_97 : decode cX8_judge 97 = .ok (.getfield 65, 3) := by decide +kernel
theorem dX8_judge_100 : decode cX8_judge 100 = .ok (.iconst 4, 1) := by decide +kernel
theorem dX8_judge_101 : decode cX8_judge 101 = .ok (.isub, 1) := by decide +kernel
theorem dX8_judge_102 : decode cX8_judge 102 = .ok (.invokevirtual 68, 3) := by decide +kernel
theorem dX8_judge_105 : decode cX8_judge 105 = .ok (.istore_n 1, 1) := by decide +kernel
theorem dX8_judge_106 : decode cX8_judge 106 = .ok (.iconst 0, 1) := by decide +kernel
theorem dX8_judge_107 : decode cX8_judge 107 = .ok (.istore_n 2, 1) := by decide +kernel
theorem dX8_judge_108 : decode cX8_judge 108 = .ok (.iload_n 2, 1) := by decide +kernel
theorem dX8_judge_109 : decode cX8_judge 109 = .ok (.iconst 4, 1) := by decide +kernel
theorem dX8_judge_110 : decode cX8_judge 110 = .ok (.if_icmp .ge 37, 3) := by decide +kernel
theorem dX8_judge_113 : decode cX8_judge 113 = .ok (.aload_n 0, 1) := by decide +kernel
theorem dX8_judge_114 : decode cX8_judge 114 = .ok (.getfield 19, 3) := by decide +kernel
theorem dX8_judge_117 : decode cX8_judge 117 = .ok (.aload_n 0, 1) := by decide +kernel
theorem dX8_judge_118 : decode cX8_judge 118 = .ok (.getfield 65, 3) := by decide +kernel
theorem dX8_judge_121 : decode cX8_judge 121 = .ok (.iconst 4, 1) := by decide +kernel
theorem dX8_judge_122 : decode cX8_judge 122 = .ok (.isub, 1) := by decide +kernel
theorem dX8_judge_123 : decode cX8_judge 123 = .ok (.iload_n 2, 1) := by decide +kernel
theorem dX8_judge_124 : decode cX8_judge 124 = .ok (.iadd, 1) := by decide +kernel
theorem dX8_judge_125 : decode cX8_judge 125 = .ok (.iaload, 1) := by decide +kernel
theorem dX8_judge_126 : decode cX8_judge 126 = .ok (.iload_n 1, 1) := by decide +kernel
theorem dX8_judge_127 : decode cX8_judge 127 = .ok (.bipush 8, 2) := by decide +kernel
theorem dX8_judge_129 : decode cX8_judge 129 = .ok (.iload_n 2, 1) := by decide +kernel
theorem dX8_judge_130 : decode cX8_judge 130 = .ok (.imul, 1) := by decide +kernel
theorem dX8_judge_131 : decode cX8_judge 131 = .ok (.iushr, 1) := by decide +kernel
theorem dX8_judge_132 : decode cX8_judge 132 = .ok (.sipush 255, 3) := by decide +kernel
theorem dX8_judge_135 : decode cX8_judge 135 = .ok (.iand, 1) := by decide +kernel
theorem dX8_judge_136 : decode cX8_judge 136 = .ok (.if_icmp .eq 5, 3) := by decide +kernel
theorem dX8_judge_139 : decode cX8_judge 139 = .ok (.iconst 5, 1) := by decide +kernel
theorem dX8_judge_140 : decode cX8_judge 140 = .ok (.ireturn, 1) := by decide +kernel
