set_option maxRecDepth 20000 in
theorem ggX0_init_J7_fill_53178 : GoodIn wsX0_init wsJ7_fill_53178 := goodIn_r _ [10] (by decide +kernel) (by decide +kernel)
set_option maxRecDepth 20000 in
theorem gX0_init_J7_fill_53178 : GoodIn wsX0_init (va_wsS RX0 17 yJ7_fill_53178 wsJ7_fill_53178) := goodIn_app (goodIn_of _ (by decide +kernel)) ggX0_init_J7_fill_53178
theorem dX0_init_0 : decode cX0_init 0 = .ok (.aload_n 0, 1) := by decide +kernel
theorem dX0_init_1 : decode cX0_init 1 = .ok (.invokespecial 1, 3) := by decide +kernel
theorem dX0_init_4 : decode cX0_init 4 = .ok (.aload_n 0, 1) := by decide +kernel
theorem dX0_init_5 : decode cX0_init 5 = .ok (.bipush 100, 2) := by decide +kernel
theorem dX0_init_7 : decode cX0_init 7 = .ok (.newarray .int, 2) := by decide +kernel
theorem dX0_init_9 : decode cX0_init 9 = .ok (.putfield 9, 3) := by decide +kernel
theorem dX0_init_12 : decode cX0_init 12 = .ok (.aload_n 0, 1) := by decide +kernel
theorem dX0_init_13 : decode cX0_init 13 = .ok (.iconst 0, 1) := by decide +kernel
theorem dX0_init_14 : decode cX0_init 14 = .ok (.putfield 13, 3) := by decide +kernel
theorem dX0_init_17 : decode cX0_init 17 = .ok (.aload_n 0, 1) := by decide +kernel
theorem dX0_init_18 : decode cX0_init 18 = .ok (.getfield 9, 3) := by decide +kernel
theorem dX0_init_21 : decode cX0_init 21 = .ok (.iconst 2, 1) := by decide +kernel
theorem dX0_init_22 : decode cX0_init 22 = .ok (.invokestatic 17, 3) := by decide +kernel
theorem dX0_init_25 : decode cX0_init 25 = .ok (.return_, 1) := by decide +kernel
theorem dX0_place_0 : decode cX0_place 0 = .ok (.iload_n 1, 1) := by decide +kernel
theorem dX0_place_1 : decode cX0_place 1 = .ok (.iconst 1, 1) := by decide +kernel
theorem dX0_place_2 : decode cX0_place 2 = .ok (.if_icmp .lt 19, 3) := by decide +kernel
theorem dX0_place_5 : decode cX0_place 5 = .ok (.iload_n 1, 1) := by decide +kernel
theorem dX0_place_6 : decode cX0_place 6 = .ok (.bipush 100, 2) := by decide +kernel
theorem dX0_place_8 : decode cX0_place 8 = .ok (.if_icmp .gt 13, 3) := by decide +kernel
theorem dX0_place_11 : decode cX0_place 11 = .ok (.iload_n 2, 1) := by decide +kernel
theorem dX0_place_12 : decode cX0_place 12 = .ok (.iconst (-1), 1) := by decide +kernel
theorem dX0_place_13 : decode cX0_place 13 = .ok (.if_icmp .lt 8, 3) := by decide +kernel
theorem dX0_place_16 : decode cX0_place 16 = .ok (.iload_n 2, 1) := by decide +kernel
theorem dX0_place_17 : decode cX0_place 17 = .ok (.iconst 1, 1) := by decide +kernel
theorem dX0_place_18 : decode cX0_place 18 = .ok (.if_icmp .le 5, 3) := by decide +kernel
theorem dX0_place_21 : decode cX0_place 21 = .ok (.iconst 0, 1) := by decide +kernel
theorem dX0_place_22 : decode cX0_place 22 = .ok (.ireturn, 1) := by decide +kernel
theorem dX0_place_23 : decode cX0_place 23 = .ok (.aload_n 0, 1) := by decide +kernel
theorem dX0_place_24 : decode cX0_place 24 = .ok (.getfield 9, 3) := by decide +kernel
theorem dX0_place_27 : decode cX0_place 27 = .ok (.aload_n 0, 1) := by decide +kernel
theorem dX0_place_28 : decode cX0_place 28 = .ok (.getfield 13, 3) := by decide +kernel
theorem dX0_place_31 : decode cX0_place 31 = .ok (.iload_n 1, 1) := by decide +kernel
theorem dX0_place_32 : decode cX0_place 32 = .ok (.iadd, 1) := by decide +kernel
theorem dX0_place_33 : decode cX0_place 33 = .ok (.iconst 1, 1) := by decide +kernel
theorem dX0_place_34 : decode cX0_place 34 = .ok (.isub, 1) := by decide +kernel
theorem dX0_place_35 : decode cX0_place 35 = .ok (.bipush 100, 2) := by decide +kernel
theorem dX0_place_37 : decode cX0_place 37 = .ok (.irem, 1) := by decide +kernel
theorem dX0_place_38 : decode cX0_place 38 = .ok (.iload_n 2, 1) := by decide +kernel
theorem dX0_place_39 : decode cX0_place 39 = .ok (.iastore, 1) := by decide +kernel
theorem dX0_place_40 : decode cX0_place 40 = .ok (.iconst 1, 1) := by decide +kernel
theorem dX0_place_41 : decode cX0_place 41 = .ok (.ireturn, 1) := by decide +kernel
theorem dX0_passOn_0 : decode cX0_passOn 0 = .ok (.aload_n 0, 1) := by decide +kernel
theorem dX0_passOn_1 : decode cX0_passOn 1 = .ok (.getfield 9, 3) := by decide +kernel
theorem dX0_passOn_4 : decode cX0_passOn 4 = .ok (.aload_n 0, 1) := by decide +kernel
theorem dX0_passOn_5 : decode cX0_passOn 5 = .ok (.getfield 13, 3) := by decide +kernel
theorem dX0_passOn_8 : decode cX0_passOn 8 = .ok (.iaload, 1) := by decide +kernel
theorem dX0_passOn_9 : decode cX0_passOn 9 = .ok (.istore_n 2, 1) := by decide +kernel
theorem dX0_passOn_10 : decode cX0_passOn 10 = .ok (.aload_n 0, 1) := by decide +kernel
theorem dX0_passOn_11 : decode cX0_passOn 11 = .ok (.getfield 9, 3) := by decide +kernel
theorem dX0_passOn_14 : decode cX0_passOn 14 = .ok (.aload_n 0, 1) := by decide +kernel
theorem dX0_passOn_15 : decode cX0_passOn 15 = .ok (.getfield 13, 3) := by decide +kernel
theorem dX0_passOn_18 : decode cX0_passOn 18 = .ok (.iconst 2, 1) := by decide +kernel
theorem dX0_passOn_19 : decode cX0_passOn 19 = .ok (.iastore, 1) := by decide +kernel
theorem dX0_passOn_20 : decode cX0_passOn 20 = .ok (.aload_n 0, 1) := by decide +kernel
theorem dX0_passOn_21 : decode cX0_passOn 21 = .ok (.aload_n 0, 1) := by decide +kernel
theorem dX0_passOn_22 : decode cX0_passOn 22 = .ok (.getfield 13, 3) := by decide +kernel
theorem dX0_passOn_25 : decode cX0_passOn 25 = .ok (.iconst 1, 1) := by decide +kernel
theorem dX0_passOn_26 : decode cX0_passOn 26 = .ok (.iadd, 1) := by decide +kernel
theorem dX0_passOn_27 : decode cX0_passOn 27 = .ok (.bipush 100, 2) := by decide +kernel
theorem dX0_passOn_29 : decode cX0_passOn 29 = .ok (.irem, 1) := by decide +kernel
theorem dX0_passOn_30 : decode cX0_passOn 30 = .ok (.putfield 13, 3) := by decide +kernel
theorem dX0_passOn_33 : decode cX0_passOn 33 = .ok (.iload_n 2, 1) := by decide +kernel
theorem dX0_passOn_34 : decode cX0_passOn 34 = .ok (.iconst 2, 1) := by decide +kernel
theorem dX0_passOn_35 : decode cX0_passOn 35 = .ok (.if_icmp .ne 7, 3) := by decide +kernel
theorem dX0_passOn_38 : decode cX0_passOn 38 = .ok (.iload_n 1, 1) := by decide +kernel
theorem dX0_passOn_39 : decode cX0_passOn 39 = .ok (.goto 4, 3) := by decide +kernel
theorem dX0_passOn_42 : decode cX0_passOn 42 = .ok (.iload_n 2, 1) := by decide +kernel
theorem dX0_passOn_43 : decode cX0_passOn 43 = .ok (.ireturn, 1) := by decide +kernel
theorem dX1_init_0 : decode cX1_init 0 = .ok (.aload_n 0, 1) := by decide +kernel
theorem dX1_init_1 : decode cX1_init 1 = .ok (.invokespecial 3, 3) := by decide +kernel
theorem dX1_init_4 : decode cX1_init 4 = .ok (.aload_n 0, 1) := by decide +kernel
theorem dX1_init_5 : decode cX1_init 5 = .ok (.bipush 11, 2) := by decide +kernel
theorem dX1_init_7 : decode cX1_init 7 = .ok (.newarray .int, 2) := by decide +kernel
theorem dX1_init_9 : decode cX1_init 9 = .ok (.putfield 9, 3) := by decide +kernel
theorem dX1_init_12 : decode cX1_init 12 = .ok (.aload_n 0, 1) := by decide +kernel
theorem dX1_init_13 : decode cX1_init 13 = .ok (.bipush 24, 2) := by decide +kernel
theorem dX1_init_15 : decode cX1_init 15 = .ok (.newarray .int, 2) := by decide +kernel
theorem dX1_init_17 : decode cX1_init 17 = .ok (.putfield 15, 3) := by decide +kernel
theorem dX1_init_20 : decode cX1_init 20 = .ok (.aload_n 0, 1) := by decide +kernel
theorem dX1_init_21 : decode cX1_init 21 = .ok (.iconst (-1), 1) := by decide +kernel
theorem dX1_init_22 : decode cX1_init 22 = .ok (.putfield 18, 3) := by decide +kernel
theorem dX1_init_25 : decode cX1_init 25 = .ok (.aload_n 0, 1) := by decide +kernel
theorem dX1_init_26 : decode cX1_init 26 = .ok (.iconst (-1), 1) := by decide +kernel
theorem dX1_init_27 : decode cX1_init 27 = .ok (.putfield 22, 3) := by decide +kernel
theorem dX1_init_30 : decode cX1_init 30 = .ok (.return_, 1) := by decide +kernel
theorem dX1_note_0 : decode cX1_note 0 = .ok (.aload_n 0, 1) := by decide +kernel
theorem dX1_note_1 : decode cX1_note 1 = .ok (.getfield 9, 3) := by decide +kernel
theorem dX1_note_4 : decode cX1_note 4 = .ok (.iload_n 1, 1) := by decide +kernel
theorem dX1_note_5 : decode cX1_note 5 = .ok (.dup2, 1) := by decide +kernel
theorem dX1_note_6 : decode cX1_note 6 = .ok (.iaload, 1) := by decide +kernel
theorem dX1_note_7 : decode cX1_note 7 = .ok (.iconst 1, 1) := by decide +kernel
theorem dX1_note_8 : decode cX1_note 8 = .ok (.iadd, 1) := by decide +kernel
theorem dX1_note_9 : decode cX1_note 9 = .ok (.iastore, 1) := by decide +kernel
theorem dX1_note_10 : decode cX1_note 10 = .ok (.iload_n 1, 1) := by decide +kernel
theorem dX1_note_11 : decode cX1_note 11 = .ok (.ifCond .ne 36, 3) := by decide +kernel
theorem dX1_note_14 : decode cX1_note 14 = .ok (.aload_n 0, 1) := by decide +kernel
theorem dX1_note_15 : decode cX1_note 15 = .ok (.aload_n 2, 1) := by decide +kernel
theorem dX1_note_16 : decode cX1_note 16 = .ok (.iconst 1, 1) := by decide +kernel
theorem dX1_note_17 : decode cX1_note 17 = .ok (.iaload, 1) := by decide +kernel
theorem dX1_note_18 : decode cX1_note 18 = .ok (.putfield 18, 3) := by decide +kernel
theorem dX1_note_21 : decode cX1_note 21 = .ok (.aload_n 0, 1) := by decide +kernel
theorem dX1_note_22 : decode cX1_note 22 = .ok (.aload_n 2, 1) := by decide +kernel
theorem dX1_note_23 : decode cX1_note 23 = .ok (.iconst 2, 1) := by decide +kernel
theorem dX1_note_24 : decode cX1_note 24 = .ok (.iaload, 1) := by decide +kernel
theorem dX1_note_25 : decode cX1_note 25 = .ok (.bipush 24, 2) := by decide +kernel
theorem dX1_note_27 : decode cX1_note 27 = .ok (.invokestatic 25, 3) := by decide +kernel
theorem dX1_note_30 : decode cX1_note 30 = .ok (.putfield 22, 3) := by decide +kernel
theorem dX1_note_33 : decode cX1_note 33 = .ok (.aload_n 2, 1) := by decide +kernel
theorem dX1_note_34 : decode cX1_note 34 = .ok (.iconst 3, 1) := by decide +kernel
theorem dX1_note_35 : decode cX1_note 35 = .ok (.aload_n 0, 1) := by decide +kernel
theorem dX1_note_36 : decode cX1_note 36 = .ok (.getfield 15, 3) := by decide +kernel
theorem dX1_note_39 : decode cX1_note 39 = .ok (.iconst 0, 1) := by decide +kernel
theorem dX1_note_40 : decode cX1_note 40 = .ok (.aload_n 0, 1) := by decide +kernel
theorem dX1_note_41 : decode cX1_note 41 = .ok (.getfield 22, 3) := by decide +kernel
theorem dX1_note_44 : decode cX1_note 44 = .ok (.invokestatic 31, 3) := by decide +kernel
theorem dX1_note_47 : decode cX1_note 47 = .ok (.return_, 1) := by decide +kernel
theorem dX1_goodByte_0 : decode cX1_goodByte 0 = .ok (.iload_n 1, 1) := by decide +kernel
theorem dX1_goodByte_1 : decode cX1_goodByte 1 = .ok (.ifCond .lt 11, 3) := by decide +kernel
theorem dX1_goodByte_4 : decode cX1_goodByte 4 = .ok (.iload_n 1, 1) := by decide +kernel
theorem dX1_goodByte_5 : decode cX1_goodByte 5 = .ok (.aload_n 0, 1) := by decide +kernel
theorem dX1_goodByte_6 : decode cX1_goodByte 6 = .ok (.getfield 22, 3) := by decide +kernel
theorem dX1_goodByte_9 : decode cX1_goodByte 9 = .ok (.if_icmp .lt 7, 3) := by decide +kernel
theorem dX1_goodByte_12 : decode cX1_goodByte 12 = .ok (.iconst (-1), 1) := by decide +kernel
theorem dX1_goodByte_13 : decode cX1_goodByte 13 = .ok (.goto 9, 3) := by decide +kernel
theorem dX1_goodByte_16 : decode cX1_goodByte 16 = .ok (.aload_n 0, 1) := by decide +kernel
theorem dX1_goodByte_17 : decode cX1_goodByte 17 = .ok (.getfield 15, 3) := by decide +kernel
theorem dX1_goodByte_20 : decode cX1_goodByte 20 = .ok (.iload_n 1, 1) := by decide +kernel
theorem dX1_goodByte_21 : decode cX1_goodByte 21 = .ok (.iaload, 1) := by decide +kernel
theorem dX1_goodByte_22 : decode cX1_goodByte 22 = .ok (.ireturn, 1) := by decide +kernel
set_option maxRecDepth 20000 in
theorem ggX2_init_X5_init : GoodIn wsX2_init wsX5_init := goodIn_r _ [24, 25, 2, 3, 26, 47] (by decide +kernel) (by decide +kernel)
set_option maxRecDepth 20000 in
theorem gX2_init_X5_init : GoodIn wsX2_init (wsX5_init) := ggX2_init_X5_init
set_option maxRecDepth 20000 in
theorem ggX2_init_X1_init : GoodIn wsX2_init wsX1_init := goodIn_r _ [28, 29, 2, 3, 30, 31, 32, 33, 34, 57, 58, 59, 60] (by decide +kernel) (by decide +kernel)
set_option maxRecDepth 20000 in
theorem gX2_init_X1_init_n22 : GoodIn wsX2_init (wsX1_init) := ggX2_init_X1_init
set_option maxRecDepth 20000 in
theorem ggX2_init_X4_init : GoodIn wsX2_init wsX4_init := goodIn_r _ [37, 38, 2, 3, 30, 39, 40, 41, 42, 43, 44, 45, 46, 61, 62, 63, 64, 65, 66, 67, 68] (by decide +kernel) (by decide +kernel)
set_option maxRecDepth 20000 in
theorem gX2_init_X4_init : GoodIn wsX2_init (wsX4_init) := ggX2_init_X4_init
theorem dX2_init_0 : decode cX2_init 0 = .ok (.aload_n 0, 1) := by decide +kernel
theorem dX2_init_1 : decode cX2_init 1 = .ok (.invokespecial 3, 3) := by decide +kernel
theorem dX2_init_4 : decode cX2_init 4 = .ok (.aload_n 0, 1) := by decide +kernel
theorem dX2_init_5 : decode cX2_init 5 = .ok (.new 9, 3) := by decide +kernel
theorem dX2_init_8 : decode cX2_init 8 = .ok (.dup, 1) := by decide +kernel
theorem dX2_init_9 : decode cX2_init 9 = .ok (.iconst 0, 1) := by decide +kernel
theorem dX2_init_10 : decode cX2_init 10 = .ok (.invokespecial 11, 3) := by decide +kernel
theorem dX2_init_13 : decode cX2_init 13 = .ok (.putfield 14, 3) := by decide +kernel
theorem dX2_init_16 : decode cX2_init 16 = .ok (.aload_n 0, 1) := by decide +kernel
theorem dX2_init_17 : decode cX2_init 17 = .ok (.new 20, 3) := by decide +kernel
theorem dX2_init_20 : decode cX2_init 20 = .ok (.dup, 1) := by decide +kernel
theorem dX2_init_21 : decode cX2_init 21 = .ok (.invokespecial 22, 3) := by decide +kernel
theorem dX2_init_24 : decode cX2_init 24 = .ok (.putfield 23, 3) := by decide +kernel
theorem dX2_init_27 : decode cX2_init 27 = .ok (.aload_n 0, 1) := by decide +kernel
theorem dX2_init_28 : decode cX2_init 28 = .ok (.iconst 0, 1) := by decide +kernel
theorem dX2_init_29 : decode cX2_init 29 = .ok (.putfield 27, 3) := by decide +kernel
theorem dX2_init_32 : decode cX2_init 32 = .ok (.aload_n 0, 1) := by decide +kernel
theorem dX2_init_33 : decode cX2_init 33 = .ok (.iconst 0, 1) := by decide +kernel
theorem dX2_init_34 : decode cX2_init 34 = .ok (.putfield 31, 3) := by decide +kernel
theorem dX2_init_37 : decode cX2_init 37 = .ok (.aload_n 0, 1) := by decide +kernel
theorem dX2_init_38 : decode cX2_init 38 = .ok (.iconst 0, 1) := by decide +kernel
theorem dX2_init_39 : decode cX2_init 39 = .ok (.putfield 34, 3) := by decide +kernel
theorem dX2_init_42 : decode cX2_init 42 = .ok (.aload_n 0, 1) := by decide +kernel
theorem dX2_init_43 : decode cX2_init 43 = .ok (.iconst 0, 1) := by decide +kernel
theorem dX2_init_44 : decode cX2_init 44 = .ok (.putfield 37, 3) := by decide +kernel
theorem dX2_init_47 : decode cX2_init 47 = .ok (.aload_n 0, 1) := by decide +kernel
theorem dX2_init_48 : decode cX2_init 48 = .ok (.iconst 0, 1) := by decide +kernel
theorem dX2_init_49 : decode cX2_init 49 = .ok (.putfield 40, 3) := by decide +kernel
theorem dX2_init_52 : decode cX2_init 52 = .ok (.aload_n 0, 1) := by decide +kernel
theorem dX2_init_53 : decode cX2_init 53 = .ok (.iconst 0, 1) := by decide +kernel
theorem dX2_init_54 : decode cX2_init 54 = .ok (.putfield 43, 3) := by decide +kernel
theorem dX2_init_57 : decode cX2_init 57 = .ok (.aload_n 0, 1) := by decide +kernel
theorem dX2_init_58 : decode cX2_init 58 = .ok (.new 46, 3) := by decide +kernel
theorem dX2_init_61 : decode cX2_init 61 = .ok (.dup, 1) := by decide +kernel
theorem dX2_init_62 : decode cX2_init 62 = .ok (.iload_n 1, 1) := by decide +kernel
theorem dX2_init_63 : decode cX2_init 63 = .ok (.invokespecial 48, 3) := by decide +kernel
theorem dX2_init_66 : decode cX2_init 66 = .ok (.putfield 49, 3) := by decide +kernel
theorem dX2_init_69 : decode cX2_init 69 = .ok (.return_, 1) := by decide +kernel
set_option maxRecDepth 20000 in
theorem ggX2_hear_X2_seekLock : GoodIn wsX2_hear wsX2_seekLock := goodIn_r _ [9, 10, 11, 12, 13, 14, 15, 16, 17, 18, 19, 20, 21, 22, 23, 24, 25, 26, 8, 27, 2, 28, 109, 110, 111, 112, 113, 114, 115, 116, 117, 126] (by decide +kernel) (by decide +kernel)
set_option maxRecDepth 20000 in
theorem gX2_hear_X2_seekLock : GoodIn wsX2_hear (wsV RX2 53 RX2 yX2_seekLock wsX2_seekLock) := goodIn_app (goodIn_of _ (by decide +kernel)) ggX2_hear_X2_seekLock
set_option maxRecDepth 20000 in
theorem ggX2_hear_X2_follow : GoodIn wsX2_hear wsX2_follow := goodIn_r _ [32, 10, 12, 2, 4, 14, 15, 16, 17, 18, 19, 20, 21, 22, 23, 33, 34, 35, 8, 36, 13, 37, 38, 39, 40, 41, 42, 43, 44, 11, 45, 46, 47, 48, 28, 49, 50, 51, 52, 53, 54, 55, 56, 57, 58, 59, 60, 61, 62, 63, 64, 65, 66, 67, 68, 69, 70, 71, 72, 73, 74, 75, 76, 77, 78, 79, 80, 81, 82, 83, 84, 85, 86, 87, 88, 89, 90, 91, 92, 93, 94, 24, 25, 26, 27, 109, 110, 111, 112, 113, 114, 115, 116, 117, 126, 118, 119, 120, 121, 122, 123, 124, 125] (by decide +kernel) (by decide +kernel)
set_option maxRecDepth 20000 in
theorem gX2_hear_X2_follow : GoodIn wsX2_hear (wsV RX2 56 RX2 yX2_follow wsX2_follow) := goodIn_app (goodIn_of _ (by decide +kernel)) ggX2_hear_X2_follow
set_option maxRecDepth 20000 in
theorem ggX2_hear_X1_note : GoodIn wsX2_hear wsX1_note := goodIn_r _ [99, 100, 101, 102, 38, 39, 40, 103, 104, 105, 106, 107, 108, 127, 128, 129, 130] (by decide +kernel) (by decide +kernel)
set_option maxRecDepth 20000 in
theorem gX2_hear_X1_note : GoodIn wsX2_hear (wsV RX2 64 RX1 yX1_note wsX1_note) := goodIn_app (goodIn_of _ (by decide +kernel)) ggX2_hear_X1_note
theorem dX2_hear_0 : decode cX2_hear 0 = .ok (.iload_n 1, 1) := by decide +kernel
theorem dX2_hear_1 : decode cX2_hear 1 = .ok (.aload_n 0, 1) := by decide +kernel
theorem dX2_hear_2 : decode cX2_hear 2 = .ok (.getfield 31, 3) := by decide +kernel
theorem dX2_hear_5 : decode cX2_hear 5 = .ok (.if_icmp .eq 7, 3) := by decide +kernel
theorem dX2_hear_8 : decode cX2_hear 8 = .ok (.iconst 1, 1) := by decide +kernel
theorem dX2_hear_9 : decode cX2_hear 9 = .ok (.goto 4, 3) := by decide +kernel
theorem dX2_hear_12 : decode cX2_hear 12 = .ok (.iconst 0, 1) := by decide +kernel
theorem dX2_hear_13 : decode cX2_hear 13 = .ok (.istore_n 2, 1) := by decide +kernel
theorem dX2_hear_14 : decode cX2_hear 14 = .ok (.aload_n 0, 1) := by decide +kernel
theorem dX2_hear_15 : decode cX2_hear 15 = .ok (.iload_n 1, 1) := by decide +kernel
theorem dX2_hear_16 : decode cX2_hear 16 = .ok (.putfield 31, 3) := by decide +kernel
theorem dX2_hear_19 : decode cX2_hear 19 = .ok (.aload_n 0, 1) := by decide +kernel
theorem dX2_hear_20 : decode cX2_hear 20 = .ok (.getfield 27, 3) := by decide +kernel
theorem dX2_hear_23 : decode cX2_hear 23 = .ok (.ifCond .ne 10, 3) := by decide +kernel
theorem dX2_hear_26 : decode cX2_hear 26 = .ok (.aload_n 0, 1) := by decide +kernel
theorem dX2_hear_27 : decode cX2_hear 27 = .ok (.iload_n 2, 1) := by decide +kernel
theorem dX2_hear_28 : decode cX2_hear 28 = .ok (.invokevirtual 53, 3) := by decide +kernel
theorem dX2_hear_31 : decode cX2_hear 31 = .ok (.iconst 0, 1) := by decide +kernel
theorem dX2_hear_32 : decode cX2_hear 32 = .ok (.ireturn, 1) := by decide +kernel
theorem dX2_hear_33 : decode cX2_hear 33 = .ok (.aload_n 0, 1) := by decide +kernel
theorem dX2_hear_34 : decode cX2_hear 34 = .ok (.iload_n 2, 1) := by decide +kernel
theorem dX2_hear_35 : decode cX2_hear 35 = .ok (.invokevirtual 56, 3) := by decide +kernel
theorem dX2_hear_38 : decode cX2_hear 38 = .ok (.istore_n 3, 1) := by decide +kernel
theorem dX2_hear_39 : decode cX2_hear 39 = .ok (.iload_n 3, 1) := by decide +kernel
theorem dX2_hear_40 : decode cX2_hear 40 = .ok (.iconst (-1), 1) := by decide +kernel
theorem dX2_hear_41 : decode cX2_hear 41 = .ok (.if_icmp .ne 5, 3) := by decide +kernel
theorem dX2_hear_44 : decode cX2_hear 44 = .ok (.iconst 0, 1) := by decide +kernel
theorem dX2_hear_45 : decode cX2_hear 45 = .ok (.ireturn, 1) := by decide +kernel
theorem dX2_hear_46 : decode cX2_hear 46 = .ok (.aload_n 0, 1) := by decide +kernel
theorem dX2_hear_47 : decode cX2_hear 47 = .ok (.getfield 23, 3) := by decide +kernel
theorem dX2_hear_50 : decode cX2_hear 50 = .ok (.iload_n 3, 1) := by decide +kernel
theorem dX2_hear_51 : decode cX2_hear 51 = .ok (.aload_n 0, 1) := by decide +kernel
theorem dX2_hear_52 : decode cX2_hear 52 = .ok (.getfield 49, 3) := by decide +kernel
theorem dX2_hear_55 : decode cX2_hear 55 = .ok (.getfield 60, 3) := by decide +kernel
theorem dX2_hear_58 : decode cX2_hear 58 = .ok (.invokevirtual 64, 3) := by decide +kernel
theorem dX2_hear_61 : decode cX2_hear 61 = .ok (.iconst 1, 1) := by decide +kernel
theorem dX2_hear_62 : decode cX2_hear 62 = .ok (.ireturn, 1) := by decide +kernel
set_option maxRecDepth 20000 in
theorem ggX2_seekLock_X5_key : GoodIn wsX2_seekLock wsX5_key := goodIn_r _ [9, 10, 31] (by decide +kernel) (by decide +kernel)
set_option maxRecDepth 20000 in
theorem gX2_seekLock_X5_key : GoodIn wsX2_seekLock (wsV RX2 68 RX5 yX5_key wsX5_key) := goodIn_app (goodIn_of _ (by decide +kernel)) ggX2_seekLock_X5_key
set_option maxRecDepth 20000 in
theorem ggX2_seekLock_X5_shiftIn : GoodIn wsX2_seekLock wsX5_shiftIn := goodIn_r _ [14, 10, 31] (by decide +kernel) (by decide +kernel)
set_option maxRecDepth 20000 in
theorem gX2_seekLock_X5_shiftIn : GoodIn wsX2_seekLock (wsV RX2 72 RX5 yX5_shiftIn wsX5_shiftIn) := goodIn_app (goodIn_of _ (by decide +kernel)) ggX2_seekLock_X5_shiftIn
set_option maxRecDepth 20000 in
theorem ggX2_seekLock_X2_beginHunt : GoodIn wsX2_seekLock wsX2_beginHunt := goodIn_r _ [19, 20, 21, 22, 23, 24, 25, 26, 27, 28, 29, 30] (by decide +kernel) (by decide +kernel)
set_option maxRecDepth 20000 in
theorem gX2_seekLock_X2_beginHunt : GoodIn wsX2_seekLock (wsV RX2 75 RX2 yX2_beginHunt wsX2_beginHunt) := goodIn_app (goodIn_of _ (by decide +kernel)) ggX2_seekLock_X2_beginHunt
theorem dX2_seekLock_0 : decode cX2_seekLock 0 = .ok (.iload_n 1, 1) := by decide +kernel
theorem dX2_seekLock_1 : decode cX2_seekLock 1 = .ok (.iconst 1, 1) := by decide +kernel
theorem dX2_seekLock_2 : decode cX2_seekLock 2 = .ok (.ixor, 1) := by decide +kernel
theorem dX2_seekLock_3 : decode cX2_seekLock 3 = .ok (.istore_n 2, 1) := by decide +kernel
theorem dX2_seekLock_4 : decode cX2_seekLock 4 = .ok (.aload_n 0, 1) := by decide +kernel
theorem dX2_seekLock_5 : decode cX2_seekLock 5 = .ok (.aload_n 0, 1) := by decide +kernel
theorem dX2_seekLock_6 : decode cX2_seekLock 6 = .ok (.getfield 14, 3) := by decide +kernel
theorem dX2_seekLock_9 : decode cX2_seekLock 9 = .ok (.invokevirtual 68, 3) := by decide +kernel
theorem dX2_seekLock_12 : decode cX2_seekLock 12 = .ok (.iload_n 2, 1) := by decide +kernel
theorem dX2_seekLock_13 : decode cX2_seekLock 13 = .ok (.if_icmp .ne 12, 3) := by decide +kernel
theorem dX2_seekLock_16 : decode cX2_seekLock 16 = .ok (.aload_n 0, 1) := by decide +kernel
theorem dX2_seekLock_17 : decode cX2_seekLock 17 = .ok (.getfield 34, 3) := by decide +kernel
theorem dX2_seekLock_20 : decode cX2_seekLock 20 = .ok (.iconst 1, 1) := by decide +kernel
theorem dX2_seekLock_21 : decode cX2_seekLock 21 = .ok (.iadd, 1) := by decide +kernel
theorem dX2_seekLock_22 : decode cX2_seekLock 22 = .ok (.goto 4, 3) := by decide +kernel
theorem dX2_seekLock_25 : decode cX2_seekLock 25 = .ok (.iconst 0, 1) := by decide +kernel
theorem dX2_seekLock_26 : decode cX2_seekLock 26 = .ok (.putfield 34, 3) := by decide +kernel
theorem dX2_seekLock_29 : decode cX2_seekLock 29 = .ok (.aload_n 0, 1) := by decide +kernel
theorem dX2_seekLock_30 : decode cX2_seekLock 30 = .ok (.getfield 14, 3) := by decide +kernel
theorem dX2_seekLock_33 : decode cX2_seekLock 33 = .ok (.iload_n 2, 1) := by decide +kernel
theorem dX2_seekLock_34 : decode cX2_seekLock 34 = .ok (.invokevirtual 72, 3) := by decide +kernel
theorem dX2_seekLock_37 : decode cX2_seekLock 37 = .ok (.aload_n 0, 1) := by decide +kernel
theorem dX2_seekLock_38 : decode cX2_seekLock 38 = .ok (.getfield 34, 3) := by decide +kernel
theorem dX2_seekLock_41 : decode cX2_seekLock 41 = .ok (.bipush 30, 2) := by decide +kernel
theorem dX2_seekLock_43 : decode cX2_seekLock 43 = .ok (.if_icmp .lt 17, 3) := by decide +kernel
theorem dX2_seekLock_46 : decode cX2_seekLock 46 = .ok (.aload_n 0, 1) := by decide +kernel
theorem dX2_seekLock_47 : decode cX2_seekLock 47 = .ok (.iconst 0, 1) := by decide +kernel
theorem dX2_seekLock_48 : decode cX2_seekLock 48 = .ok (.putfield 40, 3) := by decide +kernel
theorem dX2_seekLock_51 : decode cX2_seekLock 51 = .ok (.aload_n 0, 1) := by decide +kernel
theorem dX2_seekLock_52 : decode cX2_seekLock 52 = .ok (.iconst 0, 1) := by decide +kernel
theorem dX2_seekLock_53 : decode cX2_seekLock 53 = .ok (.putfield 37, 3) := by decide +kernel
theorem dX2_seekLock_56 : decode cX2_seekLock 56 = .ok (.aload_n 0, 1) := by decide +kernel
theorem dX2_seekLock_57 : decode cX2_seekLock 57 = .ok (.invokevirtual 75, 3) := by decide +kernel
theorem dX2_seekLock_60 : decode cX2_seekLock 60 = .ok (.return_, 1) := by decide +kernel
theorem dX2_beginHunt_0 : decode cX2_beginHunt 0 = .ok (.aload_n 0, 1) := by decide +kernel
theorem dX2_beginHunt_1 : decode cX2_beginHunt 1 = .ok (.iconst 1, 1) := by decide +kernel
theorem dX2_beginHunt_2 : decode cX2_beginHunt 2 = .ok (.putfield 27, 3) := by decide +kernel
theorem dX2_beginHunt_5 : decode cX2_beginHunt 5 = .ok (.aload_n 0, 1) := by decide +kernel
theorem dX2_beginHunt_6 : decode cX2_beginHunt 6 = .ok (.iconst 0, 1) := by decide +kernel
theorem dX2_beginHunt_7 : decode cX2_beginHunt 7 = .ok (.putfield 43, 3) := by decide +kernel
theorem dX2_beginHunt_10 : decode cX2_beginHunt 10 = .ok (.return_, 1) := by decide +kernel
set_option maxRecDepth 20000 in
theorem ggX2_follow_X5_key : GoodIn wsX2_follow wsX5_key := goodIn_r _ [9, 10, 94] (by decide +kernel) (by decide +kernel)
set_option maxRecDepth 20000 in
theorem gX2_follow_X5_key : GoodIn wsX2_follow (wsV RX2 68 RX5 yX5_key wsX5_key) := goodIn_app (goodIn_of _ (by decide +kernel)) ggX2_follow_X5_key
set_option maxRecDepth 20000 in
theorem ggX2_follow_X5_shiftIn : GoodIn wsX2_follow wsX5_shiftIn := goodIn_r _ [14, 10, 94] (by decide +kernel) (by decide +kernel)
set_option maxRecDepth 20000 in
theorem gX2_follow_X5_shiftIn : GoodIn wsX2_follow (wsV RX2 72 RX5 yX5_shiftIn wsX5_shiftIn) := goodIn_app (goodIn_of _ (by decide +kernel)) ggX2_follow_X5_shiftIn
set_option maxRecDepth 20000 in
theorem ggX2_follow_X2_countQuiet : GoodIn wsX2_follow wsX2_countQuiet := goodIn_r _ [19, 20, 21, 22, 23, 24, 2, 85, 86, 87, 88, 89, 90, 91, 92, 93] (by decide +kernel) (by decide +kernel)
set_option maxRecDepth 20000 in
theorem gX2_follow_X2_countQuiet : GoodIn wsX2_follow (wsV RX2 78 RX2 yX2_countQuiet wsX2_countQuiet) := goodIn_app (goodIn_of _ (by decide +kernel)) ggX2_follow_X2_countQuiet
set_option maxRecDepth 20000 in
theorem ggX2_follow_X2_loseLock : GoodIn wsX2_follow wsX2_loseLock := goodIn_r _ [28, 3, 29, 85, 86, 87, 88, 89, 90, 91, 92, 93] (by decide +kernel) (by decide +kernel)
set_option maxRecDepth 20000 in
theorem gX2_follow_X2_loseLock : GoodIn wsX2_follow (wsV RX2 81 RX2 yX2_loseLock wsX2_loseLock) := goodIn_app (goodIn_of _ (by decide +kernel)) ggX2_follow_X2_loseLock
set_option maxRecDepth 20000 in
theorem ggX2_follow_X2_hunt : GoodIn wsX2_follow wsX2_hunt := goodIn_r _ [33, 34, 3, 4, 35, 36, 37, 38, 39, 40, 41, 42, 43, 44, 45, 85, 86, 87, 88, 89, 90, 91, 92, 93, 95, 96, 97, 98, 99, 100, 101, 102] (by decide +kernel) (by decide +kernel)
set_option maxRecDepth 20000 in
theorem gX2_follow_X2_hunt : GoodIn wsX2_follow (wsV RX2 84 RX2 yX2_hunt wsX2_hunt) := goodIn_app (goodIn_of _ (by decide +kernel)) ggX2_follow_X2_hunt
set_option maxRecDepth 20000 in
theorem ggX2_follow_X4_takeBit : GoodIn wsX2_follow wsX4_takeBit := goodIn_r _ [49, 41, 42, 50, 51, 52, 38, 53, 45, 54, 55, 56, 57, 40, 43, 44, 58, 59, 60, 61, 62, 63, 64, 65, 66, 67, 68, 69, 70, 71, 23, 72, 73, 74, 75, 76, 77, 78, 79, 80, 95, 96, 97, 98, 99, 100, 101, 102] (by decide +kernel) (by decide +kernel)
set_option maxRecDepth 20000 in
theorem gX2_follow_X4_takeBit : GoodIn wsX2_follow (wsV RX2 87 RX4 yX4_takeBit wsX4_takeBit) := goodIn_app (goodIn_of _ (by decide +kernel)) ggX2_follow_X4_takeBit
set_option maxRecDepth 20000 in
theorem ggX2_follow_X2_beginHunt : GoodIn wsX2_follow wsX2_beginHunt := goodIn_r _ [84, 3, 34, 85, 86, 87, 88, 89, 90, 91, 92, 93] (by decide +kernel) (by decide +kernel)
set_option maxRecDepth 20000 in
theorem gX2_follow_X2_beginHunt : GoodIn wsX2_follow (wsV RX2 75 RX2 yX2_beginHunt wsX2_beginHunt) := goodIn_app (goodIn_of _ (by decide +kernel)) ggX2_follow_X2_beginHunt
theorem dX2_follow_0 : decode cX2_follow 0 = .ok (.aload_n 0, 1) := by decide +kernel
theorem dX2_follow_1 : decode cX2_follow 1 = .ok (.getfield 14, 3) := by decide +kernel
theorem dX2_follow_4 : decode cX2_follow 4 = .ok (.invokevirtual 68, 3) := by decide +kernel
theorem dX2_follow_7 : decode cX2_follow 7 = .ok (.istore_n 2, 1) := by decide +kernel
theorem dX2_follow_8 : decode cX2_follow 8 = .ok (.iload_n 1, 1) := by decide +kernel
theorem dX2_follow_9 : decode cX2_follow 9 = .ok (.iload_n 2, 1) := by decide +kernel
theorem dX2_follow_10 : decode cX2_follow 10 = .ok (.ixor, 1) := by decide +kernel
theorem dX2_follow_11 : decode cX2_follow 11 = .ok (.istore_n 3, 1) := by decide +kernel
theorem dX2_follow_12 : decode cX2_follow 12 = .ok (.aload_n 0, 1) := by decide +kernel
theorem dX2_follow_13 : decode cX2_follow 13 = .ok (.getfield 14, 3) := by decide +kernel
theorem dX2_follow_16 : decode cX2_follow 16 = .ok (.iload_n 2, 1) := by decide +kernel
theorem dX2_follow_17 : decode cX2_follow 17 = .ok (.invokevirtual 72, 3) := by decide +kernel
theorem dX2_follow_20 : decode cX2_follow 20 = .ok (.aload_n 0, 1) := by decide +kernel
theorem dX2_follow_21 : decode cX2_follow 21 = .ok (.iload_n 3, 1) := by decide +kernel
theorem dX2_follow_22 : decode cX2_follow 22 = .ok (.invokevirtual 78, 3) := by decide +kernel
theorem dX2_follow_25 : decode cX2_follow 25 = .ok (.aload_n 0, 1) := by decide +kernel
theorem dX2_follow_26 : decode cX2_follow 26 = .ok (.getfield 40, 3) := by decide +kernel
theorem dX2_follow_29 : decode cX2_follow 29 = .ok (.sipush 400, 3) := by decide +kernel
theorem dX2_follow_32 : decode cX2_follow 32 = .ok (.if_icmp .lt 8, 3) := by decide +kernel
theorem dX2_follow_35 : decode cX2_follow 35 = .ok (.aload_n 0, 1) := by decide +kernel
theorem dX2_follow_36 : decode cX2_follow 36 = .ok (.invokevirtual 81, 3) := by decide +kernel
theorem dX2_follow_39 : decode cX2_follow 39 = .ok (.ireturn, 1) := by decide +kernel
theorem dX2_follow_40 : decode cX2_follow 40 = .ok (.aload_n 0, 1) := by decide +kernel
theorem dX2_follow_41 : decode cX2_follow 41 = .ok (.getfield 27, 3) := by decide +kernel
theorem dX2_follow_44 : decode cX2_follow 44 = .ok (.iconst 1, 1) := by decide +kernel
theorem dX2_follow_45 : decode cX2_follow 45 = .ok (.if_icmp .ne 10, 3) := by decide +kernel
theorem dX2_follow_48 : decode cX2_follow 48 = .ok (.aload_n 0, 1) := by decide +kernel
theorem dX2_follow_49 : decode cX2_follow 49 = .ok (.iload_n 3, 1) := by decide +kernel
theorem dX2_follow_50 : decode cX2_follow 50 = .ok (.invokevirtual 84, 3) := by decide +kernel
theorem dX2_follow_53 : decode cX2_follow 53 = .ok (.iconst (-1), 1) := by decide +kernel
theorem dX2_follow_54 : decode cX2_follow 54 = .ok (.ireturn, 1) := by decide +kernel
theorem dX2_follow_55 : decode cX2_follow 55 = .ok (.aload_n 0, 1) := by decide +kernel
theorem dX2_follow_56 : decode cX2_follow 56 = .ok (.getfield 49, 3) := by decide +kernel
theorem dX2_follow_59 : decode cX2_follow 59 = .ok (.iload_n 3, 1) := by decide +kernel
theorem dX2_follow_60 : decode cX2_follow 60 = .ok (.invokevirtual 87, 3) := by decide +kernel
theorem dX2_follow_63 : decode cX2_follow 63 = .ok (.istore 4, 2) := by decide +kernel
theorem dX2_follow_65 : decode cX2_follow 65 = .ok (.iload 4, 2) := by decide +kernel
theorem dX2_follow_67 : decode cX2_follow 67 = .ok (.iconst (-1), 1) := by decide +kernel
theorem dX2_follow_68 : decode cX2_follow 68 = .ok (.if_icmp .eq 7, 3) := by decide +kernel
theorem dX2_follow_71 : decode cX2_follow 71 = .ok (.aload_n 0, 1) := by decide +kernel
theorem dX2_follow_72 : decode cX2_follow 72 = .ok (.invokevirtual 75, 3) := by decide +kernel
theorem dX2_follow_75 : decode cX2_follow 75 = .ok (.iload 4, 2) := by decide +kernel
theorem dX2_follow_77 : decode cX2_follow 77 = .ok (.ireturn, 1) := by decide +kernel
theorem dX2_countQuiet_0 : decode cX2_countQuiet 0 = .ok (.aload_n 0, 1) := by decide +kernel
theorem dX2_countQuiet_1 : decode cX2_countQuiet 1 = .ok (.iload_n 1, 1) := by decide +kernel
theorem dX2_countQuiet_2 : decode cX2_countQuiet 2 = .ok (.iconst 1, 1) := by decide +kernel
theorem dX2_countQuiet_3 : decode cX2_countQuiet 3 = .ok (.if_icmp .ne 17, 3) := by decide +kernel
theorem dX2_countQuiet_6 : decode cX2_countQuiet 6 = .ok (.aload_n 0, 1) := by decide +kernel
theorem dX2_countQuiet_7 : decode cX2_countQuiet 7 = .ok (.getfield 37, 3) := by decide +kernel
theorem dX2_countQuiet_10 : decode cX2_countQuiet 10 = .ok (.iconst 1, 1) := by decide +kernel
theorem dX2_countQuiet_11 : decode cX2_countQuiet 11 = .ok (.iadd, 1) := by decide +kernel
theorem dX2_countQuiet_12 : decode cX2_countQuiet 12 = .ok (.bipush 10, 2) := by decide +kernel
theorem dX2_countQuiet_14 : decode cX2_countQuiet 14 = .ok (.invokestatic 90, 3) := by decide +kernel
theorem dX2_countQuiet_17 : decode cX2_countQuiet 17 = .ok (.goto 4, 3) := by decide +kernel
theorem dX2_countQuiet_20 : decode cX2_countQuiet 20 = .ok (.iconst 0, 1) := by decide +kernel
theorem dX2_countQuiet_21 : decode cX2_countQuiet 21 = .ok (.putfield 37, 3) := by decide +kernel
theorem dX2_countQuiet_24 : decode cX2_countQuiet 24 = .ok (.aload_n 0, 1) := by decide +kernel
theorem dX2_countQuiet_25 : decode cX2_countQuiet 25 = .ok (.aload_n 0, 1) := by decide +kernel
theorem dX2_countQuiet_26 : decode cX2_countQuiet 26 = .ok (.getfield 37, 3) := by decide +kernel
theorem dX2_countQuiet_29 : decode cX2_countQuiet 29 = .ok (.bipush 10, 2) := by decide +kernel
theorem dX2_countQuiet_31 : decode cX2_countQuiet 31 = .ok (.if_icmp .lt 7, 3) := by decide +kernel
theorem dX2_countQuiet_34 : decode cX2_countQuiet 34 = .ok (.iconst 0, 1) := by decide +kernel
theorem dX2_countQuiet_35 : decode cX2_countQuiet 35 = .ok (.goto 9, 3) := by decide +kernel
theorem dX2_countQuiet_38 : decode cX2_countQuiet 38 = .ok (.aload_n 0, 1) := by decide +kernel
theorem dX2_countQuiet_39 : decode cX2_countQuiet 39 = .ok (.getfield 40, 3) := by decide +kernel
theorem dX2_countQuiet_42 : decode cX2_countQuiet 42 = .ok (.iconst 1, 1) := by decide +kernel
theorem dX2_countQuiet_43 : decode cX2_countQuiet 43 = .ok (.iadd, 1) := by decide +kernel
theorem dX2_countQuiet_44 : decode cX2_countQuiet 44 = .ok (.putfield 40, 3) := by decide +kernel
theorem dX2_countQuiet_47 : decode cX2_countQuiet 47 = .ok (.return_, 1) := by decide +kernel
theorem dX2_loseLock_0 : decode cX2_loseLock 0 = .ok (.aload_n 0, 1) := by decide +kernel
theorem dX2_loseLock_1 : decode cX2_loseLock 1 = .ok (.getfield 27, 3) := by decide +kernel
theorem dX2_loseLock_4 : decode cX2_loseLock 4 = .ok (.iconst 2, 1) := by decide +kernel
theorem dX2_loseLock_5 : decode cX2_loseLock 5 = .ok (.if_icmp .ne 7, 3) := by decide +kernel
theorem dX2_loseLock_8 : decode cX2_loseLock 8 = .ok (.iconst 1, 1) := by decide +kernel
theorem dX2_loseLock_9 : decode cX2_loseLock 9 = .ok (.goto 4, 3) := by decide +kernel
theorem dX2_loseLock_12 : decode cX2_loseLock 12 = .ok (.iconst 0, 1) := by decide +kernel
theorem dX2_loseLock_13 : decode cX2_loseLock 13 = .ok (.istore_n 1, 1) := by decide +kernel
theorem dX2_loseLock_14 : decode cX2_loseLock 14 = .ok (.aload_n 0, 1) := by decide +kernel
theorem dX2_loseLock_15 : decode cX2_loseLock 15 = .ok (.iconst 0, 1) := by decide +kernel
theorem dX2_loseLock_16 : decode cX2_loseLock 16 = .ok (.putfield 27, 3) := by decide +kernel
theorem dX2_loseLock_19 : decode cX2_loseLock 19 = .ok (.aload_n 0, 1) := by decide +kernel
theorem dX2_loseLock_20 : decode cX2_loseLock 20 = .ok (.iconst 0, 1) := by decide +kernel
theorem dX2_loseLock_21 : decode cX2_loseLock 21 = .ok (.putfield 34, 3) := by decide +kernel
theorem dX2_loseLock_24 : decode cX2_loseLock 24 = .ok (.iload_n 1, 1) := by decide +kernel
theorem dX2_loseLock_25 : decode cX2_loseLock 25 = .ok (.ifCond .eq 8, 3) := by decide +kernel
theorem dX2_loseLock_28 : decode cX2_loseLock 28 = .ok (.bipush 10, 2) := by decide +kernel
theorem dX2_loseLock_30 : decode cX2_loseLock 30 = .ok (.goto 4, 3) := by decide +kernel
theorem dX2_loseLock_33 : decode cX2_loseLock 33 = .ok (.iconst (-1), 1) := by decide +kernel
theorem dX2_loseLock_34 : decode cX2_loseLock 34 = .ok (.ireturn, 1) := by decide +kernel
set_option maxRecDepth 20000 in
theorem ggX2_hunt_X4_begin : GoodIn wsX2_hunt wsX4_begin := goodIn_r _ [8, 9, 10, 11, 12, 13, 14, 24, 25, 26, 27, 28, 29, 30, 31] (by decide +kernel) (by decide +kernel)
set_option maxRecDepth 20000 in
theorem gX2_hunt_X4_begin : GoodIn wsX2_hunt (wsV RX2 96 RX4 yX4_begin wsX4_begin) := goodIn_app (goodIn_of _ (by decide +kernel)) ggX2_hunt_X4_begin
theorem dX2_hunt_0 : decode cX2_hunt 0 = .ok (.aload_n 0, 1) := by decide +kernel
theorem dX2_hunt_1 : decode cX2_hunt 1 = .ok (.iconst 2, 1) := by decide +kernel
theorem dX2_hunt_2 : decode cX2_hunt 2 = .ok (.aload_n 0, 1) := by decide +kernel
theorem dX2_hunt_3 : decode cX2_hunt 3 = .ok (.getfield 43, 3) := by decide +kernel
theorem dX2_hunt_6 : decode cX2_hunt 6 = .ok (.imul, 1) := by decide +kernel
theorem dX2_hunt_7 : decode cX2_hunt 7 = .ok (.iload_n 1, 1) := by decide +kernel
theorem dX2_hunt_8 : decode cX2_hunt 8 = .ok (.iadd, 1) := by decide +kernel
theorem dX2_hunt_9 : decode cX2_hunt 9 = .ok (.sipush 1024, 3) := by decide +kernel
theorem dX2_hunt_12 : decode cX2_hunt 12 = .ok (.irem, 1) := by decide +kernel
theorem dX2_hunt_13 : decode cX2_hunt 13 = .ok (.putfield 43, 3) := by decide +kernel
theorem dX2_hunt_16 : decode cX2_hunt 16 = .ok (.aload_n 0, 1) := by decide +kernel
theorem dX2_hunt_17 : decode cX2_hunt 17 = .ok (.getfield 43, 3) := by decide +kernel
theorem dX2_hunt_20 : decode cX2_hunt 20 = .ok (.sipush 785, 3) := by decide +kernel
theorem dX2_hunt_23 : decode cX2_hunt 23 = .ok (.if_icmp .ne 15, 3) := by decide +kernel
theorem dX2_hunt_26 : decode cX2_hunt 26 = .ok (.aload_n 0, 1) := by decide +kernel
theorem dX2_hunt_27 : decode cX2_hunt 27 = .ok (.iconst 2, 1) := by decide +kernel
theorem dX2_hunt_28 : decode cX2_hunt 28 = .ok (.putfield 27, 3) := by decide +kernel
theorem dX2_hunt_31 : decode cX2_hunt 31 = .ok (.aload_n 0, 1) := by decide +kernel
theorem dX2_hunt_32 : decode cX2_hunt 32 = .ok (.getfield 49, 3) := by decide +kernel
theorem dX2_hunt_35 : decode cX2_hunt 35 = .ok (.invokevirtual 96, 3) := by decide +kernel
theorem dX2_hunt_38 : decode cX2_hunt 38 = .ok (.return_, 1) := by decide +kernel
theorem dX3_init_0 : decode cX3_init 0 = .ok (.aload_n 0, 1) := by decide +kernel
theorem dX3_init_1 : decode cX3_init 1 = .ok (.invokespecial 3, 3) := by decide +kernel
theorem dX3_init_4 : decode cX3_init 4 = .ok (.aload_n 0, 1) := by decide +kernel
theorem dX3_init_5 : decode cX3_init 5 = .ok (.bipush 24, 2) := by decide +kernel
theorem dX3_init_7 : decode cX3_init 7 = .ok (.newarray .int, 2) := by decide +kernel
theorem dX3_init_9 : decode cX3_init 9 = .ok (.putfield 9, 3) := by decide +kernel
theorem dX3_init_12 : decode cX3_init 12 = .ok (.aload_n 0, 1) := by decide +kernel
theorem dX3_init_13 : decode cX3_init 13 = .ok (.iconst 0, 1) := by decide +kernel
theorem dX3_init_14 : decode cX3_init 14 = .ok (.putfield 15, 3) := by decide +kernel
theorem dX3_init_17 : decode cX3_init 17 = .ok (.aload_n 0, 1) := by decide +kernel
theorem dX3_init_18 : decode cX3_init 18 = .ok (.iconst 4, 1) := by decide +kernel
theorem dX3_init_19 : decode cX3_init 19 = .ok (.bipush 31, 2) := by decide +kernel
theorem dX3_init_21 : decode cX3_init 21 = .ok (.multianewarray 19 2, 4) := by decide +kernel
theorem dX3_init_25 : decode cX3_init 25 = .ok (.putfield 21, 3) := by decide +kernel
theorem dX3_init_28 : decode cX3_init 28 = .ok (.aload_n 0, 1) := by decide +kernel
theorem dX3_init_29 : decode cX3_init 29 = .ok (.iconst 0, 1) := by decide +kernel
theorem dX3_init_30 : decode cX3_init 30 = .ok (.putfield 24, 3) := by decide +kernel
theorem dX3_init_33 : decode cX3_init 33 = .ok (.aload_n 0, 1) := by decide +kernel
theorem dX3_init_34 : decode cX3_init 34 = .ok (.iconst 0, 1) := by decide +kernel
theorem dX3_init_35 : decode cX3_init 35 = .ok (.putfield 27, 3) := by decide +kernel
theorem dX3_init_38 : decode cX3_init 38 = .ok (.aload_n 0, 1) := by decide +kernel
theorem dX3_init_39 : decode cX3_init 39 = .ok (.iload_n 1, 1) := by decide +kernel
theorem dX3_init_40 : decode cX3_init 40 = .ok (.putfield 30, 3) := by decide +kernel
theorem dX3_init_43 : decode cX3_init 43 = .ok (.return_, 1) := by decide +kernel
theorem dX3_give_0 : decode cX3_give 0 = .ok (.aload_n 0, 1) := by decide +kernel
theorem dX3_give_1 : decode cX3_give 1 = .ok (.getfield 15, 3) := by decide +kernel
theorem dX3_give_4 : decode cX3_give 4 = .ok (.bipush 24, 2) := by decide +kernel
theorem dX3_give_6 : decode cX3_give 6 = .ok (.if_icmp .lt 6, 3) := by decide +kernel
theorem dX3_give_9 : decode cX3_give 9 = .ok (.bipush (-2), 2) := by decide +kernel
theorem dX3_give_11 : decode cX3_give 11 = .ok (.ireturn, 1) := by decide +kernel
theorem dX3_give_12 : decode cX3_give 12 = .ok (.aload_n 0, 1) := by decide +kernel
theorem dX3_give_13 : decode cX3_give 13 = .ok (.getfield 9, 3) := by decide +kernel
theorem dX3_give_16 : decode cX3_give 16 = .ok (.aload_n 0, 1) := by decide +kernel
theorem dX3_give_17 : decode cX3_give 17 = .ok (.getfield 15, 3) := by decide +kernel
theorem dX3_give_20 : decode cX3_give 20 = .ok (.iload_n 1, 1) := by decide +kernel
theorem dX3_give_21 : decode cX3_give 21 = .ok (.iastore, 1) := by decide +kernel
theorem dX3_give_22 : decode cX3_give 22 = .ok (.aload_n 0, 1) := by decide +kernel
theorem dX3_give_23 : decode cX3_give 23 = .ok (.dup, 1) := by decide +kernel
theorem dX3_give_24 : decode cX3_give 24 = .ok (.getfield 15, 3) := by decide +kernel
theorem dX3_give_27 : decode cX3_give 27 = .ok (.iconst 1, 1) := by decide +kernel
theorem dX3_give_28 : decode cX3_give 28 = .ok (.iadd, 1) := by decide +kernel
theorem dX3_give_29 : decode cX3_give 29 = .ok (.putfield 15, 3) := by decide +kernel
theorem dX3_give_32 : decode cX3_give 32 = .ok (.aload_n 0, 1) := by decide +kernel
theorem dX3_give_33 : decode cX3_give 33 = .ok (.getfield 15, 3) := by decide +kernel
theorem dX3_give_36 : decode cX3_give 36 = .ok (.ireturn, 1) := by decide +kernel
set_option maxRecDepth 20000 in
theorem ggX3_enqueue_X3_fillFrame : GoodIn wsX3_enqueue wsX3_fillFrame := goodIn_r _ [9, 4, 10, 11, 12, 13, 14, 15, 16, 17, 18, 19, 20, 21, 22, 23, 24, 25, 26, 27, 28, 29, 30, 31, 32, 33, 34, 35, 36, 37, 38] (by decide +kernel) (by decide +kernel)
set_option maxRecDepth 20000 in
theorem gX3_enqueue_X3_fillFrame : GoodIn wsX3_enqueue (wsV RX3 33 RX3 yX3_fillFrame wsX3_fillFrame) := goodIn_app (goodIn_of _ (by decide +kernel)) ggX3_enqueue_X3_fillFrame
theorem dX3_enqueue_0 : decode cX3_enqueue 0 = .ok (.aload_n 0, 1) := by decide +kernel
theorem dX3_enqueue_1 : decode cX3_enqueue 1 = .ok (.getfield 27, 3) := by decide +kernel
theorem dX3_enqueue_4 : decode cX3_enqueue 4 = .ok (.iconst 4, 1) := by decide +kernel
theorem dX3_enqueue_5 : decode cX3_enqueue 5 = .ok (.if_icmp .lt 6, 3) := by decide +kernel
theorem dX3_enqueue_8 : decode cX3_enqueue 8 = .ok (.bipush (-2), 2) := by decide +kernel
theorem dX3_enqueue_10 : decode cX3_enqueue 10 = .ok (.ireturn, 1) := by decide +kernel
theorem dX3_enqueue_11 : decode cX3_enqueue 11 = .ok (.aload_n 0, 1) := by decide +kernel
theorem dX3_enqueue_12 : decode cX3_enqueue 12 = .ok (.aload_n 0, 1) := by decide +kernel
theorem dX3_enqueue_13 : decode cX3_enqueue 13 = .ok (.getfield 21, 3) := by decide +kernel
theorem dX3_enqueue_16 : decode cX3_enqueue 16 = .ok (.aload_n 0, 1) := by decide +kernel
theorem dX3_enqueue_17 : decode cX3_enqueue 17 = .ok (.getfield 24, 3) := by decide +kernel
theorem dX3_enqueue_20 : decode cX3_enqueue 20 = .ok (.aload_n 0, 1) := by decide +kernel
theorem dX3_enqueue_21 : decode cX3_enqueue 21 = .ok (.getfield 27, 3) := by decide +kernel
theorem dX3_enqueue_24 : decode cX3_enqueue 24 = .ok (.iadd, 1) := by decide +kernel
theorem dX3_enqueue_25 : decode cX3_enqueue 25 = .ok (.iconst 4, 1) := by decide +kernel
theorem dX3_enqueue_26 : decode cX3_enqueue 26 = .ok (.irem, 1) := by decide +kernel
theorem dX3_enqueue_27 : decode cX3_enqueue 27 = .ok (.aaload, 1) := by decide +kernel
theorem dX3_enqueue_28 : decode cX3_enqueue 28 = .ok (.iload_n 1, 1) := by decide +kernel
theorem dX3_enqueue_29 : decode cX3_enqueue 29 = .ok (.invokevirtual 33, 3) := by decide +kernel
theorem dX3_enqueue_32 : decode cX3_enqueue 32 = .ok (.aload_n 0, 1) := by decide +kernel
theorem dX3_enqueue_33 : decode cX3_enqueue 33 = .ok (.iconst 0, 1) := by decide +kernel
theorem dX3_enqueue_34 : decode cX3_enqueue 34 = .ok (.putfield 15, 3) := by decide +kernel
theorem dX3_enqueue_37 : decode cX3_enqueue 37 = .ok (.aload_n 0, 1) := by decide +kernel
theorem dX3_enqueue_38 : decode cX3_enqueue 38 = .ok (.dup, 1) := by decide +kernel
theorem dX3_enqueue_39 : decode cX3_enqueue 39 = .ok (.getfield 27, 3) := by decide +kernel
theorem dX3_enqueue_42 : decode cX3_enqueue 42 = .ok (.iconst 1, 1) := by decide +kernel
theorem dX3_enqueue_43 : decode cX3_enqueue 43 = .ok (.iadd, 1) := by decide +kernel
theorem dX3_enqueue_44 : decode cX3_enqueue 44 = .ok (.putfield 27, 3) := by decide +kernel
theorem dX3_enqueue_47 : decode cX3_enqueue 47 = .ok (.aload_n 0, 1) := by decide +kernel
theorem dX3_enqueue_48 : decode cX3_enqueue 48 = .ok (.getfield 27, 3) := by decide +kernel
theorem dX3_enqueue_51 : decode cX3_enqueue 51 = .ok (.ireturn, 1) := by decide +kernel
set_option maxRecDepth 20000 in
theorem ggX3_fillFrame_X7_frameSize : GoodIn wsX3_fillFrame wsX7_frameSize := goodIn_r _ [10, 11, 12, 13, 14] (by decide +kernel) (by decide +kernel)
set_option maxRecDepth 20000 in
theorem gX3_fillFrame_X7_frameSize_n37 : GoodIn wsX3_fillFrame (wsX7_frameSize) := ggX3_fillFrame_X7_frameSize
set_option maxRecDepth 20000 in
theorem ggX3_fillFrame_J7_fill_fda19 : GoodIn wsX3_fillFrame wsJ7_fill_fda19 := goodIn_r _ [18, 19, 20, 17, 21] (by decide +kernel) (by decide +kernel)
set_option maxRecDepth 20000 in
theorem gX3_fillFrame_J7_fill_fda19 : GoodIn wsX3_fillFrame (va_wsS RX3 47 yJ7_fill_fda19 wsJ7_fill_fda19) := goodIn_app (goodIn_of _ (by decide +kernel)) ggX3_fillFrame_J7_fill_fda19
set_option maxRecDepth 20000 in
theorem ggX3_fillFrame_X7_checkOf : GoodIn wsX3_fillFrame wsX7_checkOf := goodIn_r _ [23, 24] (by decide +kernel) (by decide +kernel)
set_option maxRecDepth 20000 in
theorem gX3_fillFrame_X7_checkOf_n53 : GoodIn wsX3_fillFrame (wsX7_checkOf) := ggX3_fillFrame_X7_checkOf
