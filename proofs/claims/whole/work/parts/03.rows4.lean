theorem dX8_isByte_4 : decode cX8_isByte 4 = .ok (.iload_n 0, 1) := by decide +kernel
theorem dX8_isByte_5 : decode cX8_isByte 5 = .ok (.sipush 255, 3) := by decide +kernel
theorem dX8_isByte_8 : decode cX8_isByte 8 = .ok (.if_icmp .gt 7, 3) := by decide +kernel
theorem dX8_isByte_11 : decode cX8_isByte 11 = .ok (.iconst 1, 1) := by decide +kernel
theorem dX8_isByte_12 : decode cX8_isByte 12 = .ok (.goto 4, 3) := by decide +kernel
theorem dX8_isByte_15 : decode cX8_isByte 15 = .ok (.iconst 0, 1) := by decide +kernel
theorem dX8_isByte_16 : decode cX8_isByte 16 = .ok (.ireturn, 1) := by decide +kernel
set_option maxRecDepth 20000 in
theorem ggX8_data_X8_isByte : GoodIn wsX8_data wsX8_isByte := goodIn_r _ [6] (by decide +kernel) (by decide +kernel)
set_option maxRecDepth 20000 in
theorem gX8_data_X8_isByte : GoodIn wsX8_data (va_wsS RX8 47 yX8_isByte wsX8_isByte) := goodIn_app (goodIn_of _ (by decide +kernel)) ggX8_data_X8_isByte
theorem dX8_data_0 : decode cX8_data 0 = .ok (.iload_n 1, 1) := by decide +kernel
theorem dX8_data_1 : decode cX8_data 1 = .ok (.invokestatic 47, 3) := by decide +kernel
theorem dX8_data_4 : decode cX8_data 4 = .ok (.ifCond .ne 5, 3) := by decide +kernel
theorem dX8_data_7 : decode cX8_data 7 = .ok (.iconst (-1), 1) := by decide +kernel
theorem dX8_data_8 : decode cX8_data 8 = .ok (.ireturn, 1) := by decide +kernel
theorem dX8_data_9 : decode cX8_data 9 = .ok (.aload_n 0, 1) := by decide +kernel
theorem dX8_data_10 : decode cX8_data 10 = .ok (.getfield 51, 3) := by decide +kernel
theorem dX8_data_13 : decode cX8_data 13 = .ok (.bipush 24, 2) := by decide +kernel
theorem dX8_data_15 : decode cX8_data 15 = .ok (.if_icmp .ne 6, 3) := by decide +kernel
theorem dX8_data_18 : decode cX8_data 18 = .ok (.bipush (-2), 2) := by decide +kernel
theorem dX8_data_20 : decode cX8_data 20 = .ok (.ireturn, 1) := by decide +kernel
theorem dX8_data_21 : decode cX8_data 21 = .ok (.aload_n 0, 1) := by decide +kernel
theorem dX8_data_22 : decode cX8_data 22 = .ok (.getfield 7, 3) := by decide +kernel
theorem dX8_data_25 : decode cX8_data 25 = .ok (.aload_n 0, 1) := by decide +kernel
theorem dX8_data_26 : decode cX8_data 26 = .ok (.getfield 51, 3) := by decide +kernel
theorem dX8_data_29 : decode cX8_data 29 = .ok (.iload_n 1, 1) := by decide +kernel
theorem dX8_data_30 : decode cX8_data 30 = .ok (.iastore, 1) := by decide +kernel
theorem dX8_data_31 : decode cX8_data 31 = .ok (.aload_n 0, 1) := by decide +kernel
theorem dX8_data_32 : decode cX8_data 32 = .ok (.dup, 1) := by decide +kernel
theorem dX8_data_33 : decode cX8_data 33 = .ok (.getfield 51, 3) := by decide +kernel
theorem dX8_data_36 : decode cX8_data 36 = .ok (.iconst 1, 1) := by decide +kernel
theorem dX8_data_37 : decode cX8_data 37 = .ok (.iadd, 1) := by decide +kernel
theorem dX8_data_38 : decode cX8_data 38 = .ok (.putfield 51, 3) := by decide +kernel
theorem dX8_data_41 : decode cX8_data 41 = .ok (.aload_n 0, 1) := by decide +kernel
theorem dX8_data_42 : decode cX8_data 42 = .ok (.getfield 51, 3) := by decide +kernel
theorem dX8_data_45 : decode cX8_data 45 = .ok (.ireturn, 1) := by decide +kernel
set_option maxRecDepth 20000 in
theorem ggX8_send_X8_isByte : GoodIn wsX8_send wsX8_isByte := goodIn_r _ [8] (by decide +kernel) (by decide +kernel)
set_option maxRecDepth 20000 in
theorem gX8_send_X8_isByte : GoodIn wsX8_send (va_wsS RX8 47 yX8_isByte wsX8_isByte) := goodIn_app (goodIn_of _ (by decide +kernel)) ggX8_send_X8_isByte
theorem dX8_send_0 : decode cX8_send 0 = .ok (.iload_n 1, 1) := by decide +kernel
theorem dX8_send_1 : decode cX8_send 1 = .ok (.invokestatic 47, 3) := by decide +kernel
theorem dX8_send_4 : decode cX8_send 4 = .ok (.ifCond .ne 5, 3) := by decide +kernel
theorem dX8_send_7 : decode cX8_send 7 = .ok (.iconst (-1), 1) := by decide +kernel
theorem dX8_send_8 : decode cX8_send 8 = .ok (.ireturn, 1) := by decide +kernel
theorem dX8_send_9 : decode cX8_send 9 = .ok (.aload_n 0, 1) := by decide +kernel
theorem dX8_send_10 : decode cX8_send 10 = .ok (.getfield 54, 3) := by decide +kernel
theorem dX8_send_13 : decode cX8_send 13 = .ok (.iconst 4, 1) := by decide +kernel
theorem dX8_send_14 : decode cX8_send 14 = .ok (.if_icmp .ne 6, 3) := by decide +kernel
theorem dX8_send_17 : decode cX8_send 17 = .ok (.bipush (-2), 2) := by decide +kernel
theorem dX8_send_19 : decode cX8_send 19 = .ok (.ireturn, 1) := by decide +kernel
theorem dX8_send_20 : decode cX8_send 20 = .ok (.aload_n 0, 1) := by decide +kernel
theorem dX8_send_21 : decode cX8_send 21 = .ok (.getfield 13, 3) := by decide +kernel
theorem dX8_send_24 : decode cX8_send 24 = .ok (.bipush 32, 2) := by decide +kernel
theorem dX8_send_26 : decode cX8_send 26 = .ok (.aload_n 0, 1) := by decide +kernel
theorem dX8_send_27 : decode cX8_send 27 = .ok (.getfield 54, 3) := by decide +kernel
theorem dX8_send_30 : decode cX8_send 30 = .ok (.imul, 1) := by decide +kernel
theorem dX8_send_31 : decode cX8_send 31 = .ok (.iload_n 1, 1) := by decide +kernel
theorem dX8_send_32 : decode cX8_send 32 = .ok (.iastore, 1) := by decide +kernel
theorem dX8_send_33 : decode cX8_send 33 = .ok (.aload_n 0, 1) := by decide +kernel
theorem dX8_send_34 : decode cX8_send 34 = .ok (.getfield 13, 3) := by decide +kernel
theorem dX8_send_37 : decode cX8_send 37 = .ok (.bipush 32, 2) := by decide +kernel
theorem dX8_send_39 : decode cX8_send 39 = .ok (.aload_n 0, 1) := by decide +kernel
theorem dX8_send_40 : decode cX8_send 40 = .ok (.getfield 54, 3) := by decide +kernel
theorem dX8_send_43 : decode cX8_send 43 = .ok (.imul, 1) := by decide +kernel
theorem dX8_send_44 : decode cX8_send 44 = .ok (.iconst 1, 1) := by decide +kernel
theorem dX8_send_45 : decode cX8_send 45 = .ok (.iadd, 1) := by decide +kernel
theorem dX8_send_46 : decode cX8_send 46 = .ok (.aload_n 0, 1) := by decide +kernel
theorem dX8_send_47 : decode cX8_send 47 = .ok (.getfield 51, 3) := by decide +kernel
theorem dX8_send_50 : decode cX8_send 50 = .ok (.iastore, 1) := by decide +kernel
theorem dX8_send_51 : decode cX8_send 51 = .ok (.iconst 0, 1) := by decide +kernel
theorem dX8_send_52 : decode cX8_send 52 = .ok (.istore_n 2, 1) := by decide +kernel
theorem dX8_send_53 : decode cX8_send 53 = .ok (.iload_n 2, 1) := by decide +kernel
theorem dX8_send_54 : decode cX8_send 54 = .ok (.bipush 24, 2) := by decide +kernel
theorem dX8_send_56 : decode cX8_send 56 = .ok (.if_icmp .ge 43, 3) := by decide +kernel
theorem dX8_send_59 : decode cX8_send 59 = .ok (.aload_n 0, 1) := by decide +kernel
theorem dX8_send_60 : decode cX8_send 60 = .ok (.getfield 13, 3) := by decide +kernel
theorem dX8_send_63 : decode cX8_send 63 = .ok (.bipush 32, 2) := by decide +kernel
theorem dX8_send_65 : decode cX8_send 65 = .ok (.aload_n 0, 1) := by decide +kernel
theorem dX8_send_66 : decode cX8_send 66 = .ok (.getfield 54, 3) := by decide +kernel
theorem dX8_send_69 : decode cX8_send 69 = .ok (.imul, 1) := by decide +kernel
theorem dX8_send_70 : decode cX8_send 70 = .ok (.iconst 2, 1) := by decide +kernel
theorem dX8_send_71 : decode cX8_send 71 = .ok (.iadd, 1) := by decide +kernel
theorem dX8_send_72 : decode cX8_send 72 = .ok (.iload_n 2, 1) := by decide +kernel
theorem dX8_send_73 : decode cX8_send 73 = .ok (.iadd, 1) := by decide +kernel
theorem dX8_send_74 : decode cX8_send 74 = .ok (.iload_n 2, 1) := by decide +kernel
theorem dX8_send_75 : decode cX8_send 75 = .ok (.aload_n 0, 1) := by decide +kernel
theorem dX8_send_76 : decode cX8_send 76 = .ok (.getfield 51, 3) := by decide +kernel
theorem dX8_send_79 : decode cX8_send 79 = .ok (.if_icmp .ge 12, 3) := by decide +kernel
theorem dX8_send_82 : decode cX8_send 82 = .ok (.aload_n 0, 1) := by decide +kernel
theorem dX8_send_83 : decode cX8_send 83 = .ok (.getfield 7, 3) := by decide +kernel
theorem dX8_send_86 : decode cX8_send 86 = .ok (.iload_n 2, 1) := by decide +kernel
theorem dX8_send_87 : decode cX8_send 87 = .ok (.iaload, 1) := by decide +kernel
theorem dX8_send_88 : decode cX8_send 88 = .ok (.goto 4, 3) := by decide +kernel
theorem dX8_send_91 : decode cX8_send 91 = .ok (.iconst 0, 1) := by decide +kernel
theorem dX8_send_92 : decode cX8_send 92 = .ok (.iastore, 1) := by decide +kernel
theorem dX8_send_93 : decode cX8_send 93 = .ok (.iinc 2 1, 3) := by decide +kernel
theorem dX8_send_96 : decode cX8_send 96 = .ok (.goto (-43), 3) := by decide +kernel
theorem dX8_send_99 : decode cX8_send 99 = .ok (.aload_n 0, 1) := by decide +kernel
theorem dX8_send_100 : decode cX8_send 100 = .ok (.dup, 1) := by decide +kernel
theorem dX8_send_101 : decode cX8_send 101 = .ok (.getfield 54, 3) := by decide +kernel
theorem dX8_send_104 : decode cX8_send 104 = .ok (.iconst 1, 1) := by decide +kernel
theorem dX8_send_105 : decode cX8_send 105 = .ok (.iadd, 1) := by decide +kernel
theorem dX8_send_106 : decode cX8_send 106 = .ok (.putfield 54, 3) := by decide +kernel
theorem dX8_send_109 : decode cX8_send 109 = .ok (.aload_n 0, 1) := by decide +kernel
theorem dX8_send_110 : decode cX8_send 110 = .ok (.iconst 0, 1) := by decide +kernel
theorem dX8_send_111 : decode cX8_send 111 = .ok (.putfield 51, 3) := by decide +kernel
theorem dX8_send_114 : decode cX8_send 114 = .ok (.aload_n 0, 1) := by decide +kernel
theorem dX8_send_115 : decode cX8_send 115 = .ok (.getfield 54, 3) := by decide +kernel
theorem dX8_send_118 : decode cX8_send 118 = .ok (.ireturn, 1) := by decide +kernel
theorem dX8_check_0 : decode cX8_check 0 = .ok (.iconst (-1), 1) := by decide +kernel
theorem dX8_check_1 : decode cX8_check 1 = .ok (.istore_n 2, 1) := by decide +kernel
theorem dX8_check_2 : decode cX8_check 2 = .ok (.iconst 0, 1) := by decide +kernel
theorem dX8_check_3 : decode cX8_check 3 = .ok (.istore_n 3, 1) := by decide +kernel
theorem dX8_check_4 : decode cX8_check 4 = .ok (.iload_n 3, 1) := by decide +kernel
theorem dX8_check_5 : decode cX8_check 5 = .ok (.iload_n 1, 1) := by decide +kernel
theorem dX8_check_6 : decode cX8_check 6 = .ok (.if_icmp .ge 53, 3) := by decide +kernel
theorem dX8_check_9 : decode cX8_check 9 = .ok (.iload_n 2, 1) := by decide +kernel
theorem dX8_check_10 : decode cX8_check 10 = .ok (.aload_n 0, 1) := by decide +kernel
theorem dX8_check_11 : decode cX8_check 11 = .ok (.getfield 19, 3) := by decide +kernel
theorem dX8_check_14 : decode cX8_check 14 = .ok (.iload_n 3, 1) := by decide +kernel
theorem dX8_check_15 : decode cX8_check 15 = .ok (.iaload, 1) := by decide +kernel
theorem dX8_check_16 : decode cX8_check 16 = .ok (.ixor, 1) := by decide +kernel
theorem dX8_check_17 : decode cX8_check 17 = .ok (.istore_n 2, 1) := by decide +kernel
theorem dX8_check_18 : decode cX8_check 18 = .ok (.iconst 0, 1) := by decide +kernel
theorem dX8_check_19 : decode cX8_check 19 = .ok (.istore 4, 2) := by decide +kernel
theorem dX8_check_21 : decode cX8_check 21 = .ok (.iload 4, 2) := by decide +kernel
theorem dX8_check_23 : decode cX8_check 23 = .ok (.bipush 8, 2) := by decide +kernel
theorem dX8_check_25 : decode cX8_check 25 = .ok (.if_icmp .ge 28, 3) := by decide +kernel
theorem dX8_check_28 : decode cX8_check 28 = .ok (.iload_n 2, 1) := by decide +kernel
theorem dX8_check_29 : decode cX8_check 29 = .ok (.iconst 1, 1) := by decide +kernel
theorem dX8_check_30 : decode cX8_check 30 = .ok (.iand, 1) := by decide +kernel
theorem dX8_check_31 : decode cX8_check 31 = .ok (.ifCond .ne 9, 3) := by decide +kernel
theorem dX8_check_34 : decode cX8_check 34 = .ok (.iload_n 2, 1) := by decide +kernel
theorem dX8_check_35 : decode cX8_check 35 = .ok (.iconst 1, 1) := by decide +kernel
theorem dX8_check_36 : decode cX8_check 36 = .ok (.iushr, 1) := by decide +kernel
theorem dX8_check_37 : decode cX8_check 37 = .ok (.goto 9, 3) := by decide +kernel
theorem dX8_check_40 : decode cX8_check 40 = .ok (.iload_n 2, 1) := by decide +kernel
theorem dX8_check_41 : decode cX8_check 41 = .ok (.iconst 1, 1) := by decide +kernel
theorem dX8_check_42 : decode cX8_check 42 = .ok (.iushr, 1) := by decide +kernel
theorem dX8_check_43 : decode cX8_check 43 = .ok (.ldc 57, 2) := by decide +kernel
theorem dX8_check_45 : decode cX8_check 45 = .ok (.ixor, 1) := by decide +kernel
theorem dX8_check_46 : decode cX8_check 46 = .ok (.istore_n 2, 1) := by decide +kernel
theorem dX8_check_47 : decode cX8_check 47 = .ok (.iinc 4 1, 3) := by decide +kernel
theorem dX8_check_50 : decode cX8_check 50 = .ok (.goto (-29), 3) := by decide +kernel
theorem dX8_check_53 : decode cX8_check 53 = .ok (.iinc 3 1, 3) := by decide +kernel
theorem dX8_check_56 : decode cX8_check 56 = .ok (.goto (-52), 3) := by decide +kernel
theorem dX8_check_59 : decode cX8_check 59 = .ok (.iload_n 2, 1) := by decide +kernel
theorem dX8_check_60 : decode cX8_check 60 = .ok (.iconst (-1), 1) := by decide +kernel
theorem dX8_check_61 : decode cX8_check 61 = .ok (.ixor, 1) := by decide +kernel
theorem dX8_check_62 : decode cX8_check 62 = .ok (.ireturn, 1) := by decide +kernel
theorem dX8_groupOf_0 : decode cX8_groupOf 0 = .ok (.iload_n 0, 1) := by decide +kernel
theorem dX8_groupOf_1 : decode cX8_groupOf 1 = .ok (.tableswitch 120 0 14 #[75, 78, 81, 84, 87, 90, 93, 96, 99, 102, 105, 108, 111, 114, 117], 75) := by decide +kernel
theorem dX8_groupOf_76 : decode cX8_groupOf 76 = .ok (.bipush 30, 2) := by decide +kernel
theorem dX8_groupOf_78 : decode cX8_groupOf 78 = .ok (.ireturn, 1) := by decide +kernel
theorem dX8_groupOf_79 : decode cX8_groupOf 79 = .ok (.bipush 9, 2) := by decide +kernel
theorem dX8_groupOf_81 : decode cX8_groupOf 81 = .ok (.ireturn, 1) := by decide +kernel
theorem dX8_groupOf_82 : decode cX8_groupOf 82 = .ok (.bipush 20, 2) := by decide +kernel
theorem dX8_groupOf_84 : decode cX8_groupOf 84 = .ok (.ireturn, 1) := by decide +kernel
theorem dX8_groupOf_85 : decode cX8_groupOf 85 = .ok (.bipush 21, 2) := by decide +kernel
theorem dX8_groupOf_87 : decode cX8_groupOf 87 = .ok (.ireturn, 1) := by decide +kernel
theorem dX8_groupOf_88 : decode cX8_groupOf 88 = .ok (.bipush 10, 2) := by decide +kernel
theorem dX8_groupOf_90 : decode cX8_groupOf 90 = .ok (.ireturn, 1) := by decide +kernel
theorem dX8_groupOf_91 : decode cX8_groupOf 91 = .ok (.bipush 11, 2) := by decide +kernel
theorem dX8_groupOf_93 : decode cX8_groupOf 93 = .ok (.ireturn, 1) := by decide +kernel
theorem dX8_groupOf_94 : decode cX8_groupOf 94 = .ok (.bipush 14, 2) := by decide +kernel
theorem dX8_groupOf_96 : decode cX8_groupOf 96 = .ok (.ireturn, 1) := by decide +kernel
theorem dX8_groupOf_97 : decode cX8_groupOf 97 = .ok (.bipush 15, 2) := by decide +kernel
theorem dX8_groupOf_99 : decode cX8_groupOf 99 = .ok (.ireturn, 1) := by decide +kernel
theorem dX8_groupOf_100 : decode cX8_groupOf 100 = .ok (.bipush 18, 2) := by decide +kernel
theorem dX8_groupOf_102 : decode cX8_groupOf 102 = .ok (.ireturn, 1) := by decide +kernel
theorem dX8_groupOf_103 : decode cX8_groupOf 103 = .ok (.bipush 19, 2) := by decide +kernel
theorem dX8_groupOf_105 : decode cX8_groupOf 105 = .ok (.ireturn, 1) := by decide +kernel
theorem dX8_groupOf_106 : decode cX8_groupOf 106 = .ok (.bipush 22, 2) := by decide +kernel
theorem dX8_groupOf_108 : decode cX8_groupOf 108 = .ok (.ireturn, 1) := by decide +kernel
theorem dX8_groupOf_109 : decode cX8_groupOf 109 = .ok (.bipush 23, 2) := by decide +kernel
theorem dX8_groupOf_111 : decode cX8_groupOf 111 = .ok (.ireturn, 1) := by decide +kernel
theorem dX8_groupOf_112 : decode cX8_groupOf 112 = .ok (.bipush 26, 2) := by decide +kernel
theorem dX8_groupOf_114 : decode cX8_groupOf 114 = .ok (.ireturn, 1) := by decide +kernel
theorem dX8_groupOf_115 : decode cX8_groupOf 115 = .ok (.bipush 27, 2) := by decide +kernel
theorem dX8_groupOf_117 : decode cX8_groupOf 117 = .ok (.ireturn, 1) := by decide +kernel
theorem dX8_groupOf_118 : decode cX8_groupOf 118 = .ok (.bipush 28, 2) := by decide +kernel
theorem dX8_groupOf_120 : decode cX8_groupOf 120 = .ok (.ireturn, 1) := by decide +kernel
theorem dX8_groupOf_121 : decode cX8_groupOf 121 = .ok (.bipush 29, 2) := by decide +kernel
theorem dX8_groupOf_123 : decode cX8_groupOf 123 = .ok (.ireturn, 1) := by decide +kernel
set_option maxRecDepth 20000 in
theorem ggX8_nibbleOf_X8_groupOf : GoodIn wsX8_nibbleOf wsX8_groupOf := goodIn_r _ [4] (by decide +kernel) (by decide +kernel)
set_option maxRecDepth 20000 in
theorem gX8_nibbleOf_X8_groupOf : GoodIn wsX8_nibbleOf (va_wsS RX8 58 yX8_groupOf wsX8_groupOf) := goodIn_app (goodIn_of _ (by decide +kernel)) ggX8_nibbleOf_X8_groupOf
theorem dX8_nibbleOf_0 : decode cX8_nibbleOf 0 = .ok (.iconst (-1), 1) := by decide +kernel
theorem dX8_nibbleOf_1 : decode cX8_nibbleOf 1 = .ok (.istore_n 1, 1) := by decide +kernel
theorem dX8_nibbleOf_2 : decode cX8_nibbleOf 2 = .ok (.iconst 0, 1) := by decide +kernel
theorem dX8_nibbleOf_3 : decode cX8_nibbleOf 3 = .ok (.istore_n 2, 1) := by decide +kernel
theorem dX8_nibbleOf_4 : decode cX8_nibbleOf 4 = .ok (.iload_n 2, 1) := by decide +kernel
theorem dX8_nibbleOf_5 : decode cX8_nibbleOf 5 = .ok (.bipush 16, 2) := by decide +kernel
theorem dX8_nibbleOf_7 : decode cX8_nibbleOf 7 = .ok (.if_icmp .ge 23, 3) := by decide +kernel
theorem dX8_nibbleOf_10 : decode cX8_nibbleOf 10 = .ok (.iload_n 2, 1) := by decide +kernel
theorem dX8_nibbleOf_11 : decode cX8_nibbleOf 11 = .ok (.invokestatic 58, 3) := by decide +kernel
theorem dX8_nibbleOf_14 : decode cX8_nibbleOf 14 = .ok (.iload_n 0, 1) := by decide +kernel
theorem dX8_nibbleOf_15 : decode cX8_nibbleOf 15 = .ok (.if_icmp .ne 7, 3) := by decide +kernel
theorem dX8_nibbleOf_18 : decode cX8_nibbleOf 18 = .ok (.iload_n 2, 1) := by decide +kernel
theorem dX8_nibbleOf_19 : decode cX8_nibbleOf 19 = .ok (.goto 4, 3) := by decide +kernel
theorem dX8_nibbleOf_22 : decode cX8_nibbleOf 22 = .ok (.iload_n 1, 1) := by decide +kernel
theorem dX8_nibbleOf_23 : decode cX8_nibbleOf 23 = .ok (.istore_n 1, 1) := by decide +kernel
theorem dX8_nibbleOf_24 : decode cX8_nibbleOf 24 = .ok (.iinc 2 1, 3) := by decide +kernel
theorem dX8_nibbleOf_27 : decode cX8_nibbleOf 27 = .ok (.goto (-23), 3) := by decide +kernel
theorem dX8_nibbleOf_30 : decode cX8_nibbleOf 30 = .ok (.iload_n 1, 1) := by decide +kernel
theorem dX8_nibbleOf_31 : decode cX8_nibbleOf 31 = .ok (.ireturn, 1) := by decide +kernel
theorem dX8_lay_0 : decode cX8_lay 0 = .ok (.iconst 4, 1) := by decide +kernel
theorem dX8_lay_1 : decode cX8_lay 1 = .ok (.istore_n 2, 1) := by decide +kernel
theorem dX8_lay_2 : decode cX8_lay 2 = .ok (.iload_n 2, 1) := by decide +kernel
theorem dX8_lay_3 : decode cX8_lay 3 = .ok (.ifCond .lt 33, 3) := by decide +kernel
theorem dX8_lay_6 : decode cX8_lay 6 = .ok (.aload_n 0, 1) := by decide +kernel
theorem dX8_lay_7 : decode cX8_lay 7 = .ok (.getfield 16, 3) := by decide +kernel
theorem dX8_lay_10 : decode cX8_lay 10 = .ok (.aload_n 0, 1) := by decide +kernel
theorem dX8_lay_11 : decode cX8_lay 11 = .ok (.getfield 62, 3) := by decide +kernel
theorem dX8_lay_14 : decode cX8_lay 14 = .ok (.iload_n 1, 1) := by decide +kernel
theorem dX8_lay_15 : decode cX8_lay 15 = .ok (.iload_n 2, 1) := by decide +kernel
theorem dX8_lay_16 : decode cX8_lay 16 = .ok (.ishr, 1) := by decide +kernel
theorem dX8_lay_17 : decode cX8_lay 17 = .ok (.iconst 1, 1) := by decide +kernel
theorem dX8_lay_18 : decode cX8_lay 18 = .ok (.iand, 1) := by decide +kernel
theorem dX8_lay_19 : decode cX8_lay 19 = .ok (.iastore, 1) := by decide +kernel
theorem dX8_lay_20 : decode cX8_lay 20 = .ok (.aload_n 0, 1) := by decide +kernel
theorem dX8_lay_21 : decode cX8_lay 21 = .ok (.dup, 1) := by decide +kernel
theorem dX8_lay_22 : decode cX8_lay 22 = .ok (.getfield 62, 3) := by decide +kernel
theorem dX8_lay_25 : decode cX8_lay 25 = .ok (.iconst 1, 1) := by decide +kernel
theorem dX8_lay_26 : decode cX8_lay 26 = .ok (.iadd, 1) := by decide +kernel
theorem dX8_lay_27 : decode cX8_lay 27 = .ok (.putfield 62, 3) := by decide +kernel
theorem dX8_lay_30 : decode cX8_lay 30 = .ok (.iinc 2 (-1), 3) := by decide +kernel
theorem dX8_lay_33 : decode cX8_lay 33 = .ok (.goto (-31), 3) := by decide +kernel
theorem dX8_lay_36 : decode cX8_lay 36 = .ok (.return_, 1) := by decide +kernel
set_option maxRecDepth 20000 in
theorem ggX8_layFrame_X8_check : GoodIn wsX8_layFrame wsX8_check := goodIn_r _ [10, 3, 11, 21, 22, 23, 24, 25, 26, 27, 28, 29, 30, 31, 32, 33, 34, 35, 36, 37, 38, 39, 40, 41, 42, 43, 44, 45, 46, 47, 48, 49, 50, 51, 52, 53, 54, 55, 56, 57, 58] (by decide +kernel) (by decide +kernel)
set_option maxRecDepth 20000 in
theorem gX8_layFrame_X8_check : GoodIn wsX8_layFrame (wsV RX8 68 RX8 yX8_check wsX8_check) := goodIn_app (goodIn_of _ (by decide +kernel)) ggX8_layFrame_X8_check
set_option maxRecDepth 20000 in
theorem ggX8_layFrame_X8_lay : GoodIn wsX8_layFrame wsX8_lay := goodIn_r _ [15, 16, 17, 21, 22, 23, 24, 25, 26, 27, 28, 29, 30, 31, 32, 33, 34, 35, 36, 37, 38, 39, 40, 41, 42, 43, 44, 45, 46, 47, 48, 49, 50, 51, 52, 53, 54, 55, 56, 57, 58] (by decide +kernel) (by decide +kernel)
set_option maxRecDepth 20000 in
theorem gX8_layFrame_X8_lay : GoodIn wsX8_layFrame (wsV RX8 71 RX8 yX8_lay wsX8_lay) := goodIn_app (goodIn_of _ (by decide +kernel)) ggX8_layFrame_X8_lay
set_option maxRecDepth 20000 in
theorem ggX8_layFrame_X8_groupOf : GoodIn wsX8_layFrame wsX8_groupOf := goodIn_r _ [20] (by decide +kernel) (by decide +kernel)
set_option maxRecDepth 20000 in
theorem gX8_layFrame_X8_groupOf : GoodIn wsX8_layFrame (va_wsS RX8 58 yX8_groupOf wsX8_groupOf) := goodIn_app (goodIn_of _ (by decide +kernel)) ggX8_layFrame_X8_groupOf
theorem dX8_layFrame_0 : decode cX8_layFrame 0 = .ok (.aload_n 0, 1) := by decide +kernel
theorem dX8_layFrame_1 : decode cX8_layFrame 1 = .ok (.getfield 13, 3) := by decide +kernel
theorem dX8_layFrame_4 : decode cX8_layFrame 4 = .ok (.iconst 1, 1) := by decide +kernel
theorem dX8_layFrame_5 : decode cX8_layFrame 5 = .ok (.iaload, 1) := by decide +kernel
theorem dX8_layFrame_6 : decode cX8_layFrame 6 = .ok (.istore_n 1, 1) := by decide +kernel
theorem dX8_layFrame_7 : decode cX8_layFrame 7 = .ok (.aload_n 0, 1) := by decide +kernel
theorem dX8_layFrame_8 : decode cX8_layFrame 8 = .ok (.iconst 3, 1) := by decide +kernel
theorem dX8_layFrame_9 : decode cX8_layFrame 9 = .ok (.iload_n 1, 1) := by decide +kernel
theorem dX8_layFrame_10 : decode cX8_layFrame 10 = .ok (.bipush 6, 2) := by decide +kernel
theorem dX8_layFrame_12 : decode cX8_layFrame 12 = .ok (.if_icmp .ge 8, 3) := by decide +kernel
theorem dX8_layFrame_15 : decode cX8_layFrame 15 = .ok (.bipush 6, 2) := by decide +kernel
theorem dX8_layFrame_17 : decode cX8_layFrame 17 = .ok (.goto 4, 3) := by decide +kernel
theorem dX8_layFrame_20 : decode cX8_layFrame 20 = .ok (.iload_n 1, 1) := by decide +kernel
theorem dX8_layFrame_21 : decode cX8_layFrame 21 = .ok (.iadd, 1) := by decide +kernel
theorem dX8_layFrame_22 : decode cX8_layFrame 22 = .ok (.putfield 65, 3) := by decide +kernel
theorem dX8_layFrame_25 : decode cX8_layFrame 25 = .ok (.aload_n 0, 1) := by decide +kernel
theorem dX8_layFrame_26 : decode cX8_layFrame 26 = .ok (.getfield 19, 3) := by decide +kernel
theorem dX8_layFrame_29 : decode cX8_layFrame 29 = .ok (.iconst 0, 1) := by decide +kernel
theorem dX8_layFrame_30 : decode cX8_layFrame 30 = .ok (.aload_n 0, 1) := by decide +kernel
theorem dX8_layFrame_31 : decode cX8_layFrame 31 = .ok (.getfield 13, 3) := by decide +kernel
theorem dX8_layFrame_34 : decode cX8_layFrame 34 = .ok (.iconst 0, 1) := by decide +kernel
theorem dX8_layFrame_35 : decode cX8_layFrame 35 = .ok (.iaload, 1) := by decide +kernel
theorem dX8_layFrame_36 : decode cX8_layFrame 36 = .ok (.iastore, 1) := by decide +kernel
theorem dX8_layFrame_37 : decode cX8_layFrame 37 = .ok (.aload_n 0, 1) := by decide +kernel
theorem dX8_layFrame_38 : decode cX8_layFrame 38 = .ok (.getfield 19, 3) := by decide +kernel
theorem dX8_layFrame_41 : decode cX8_layFrame 41 = .ok (.iconst 1, 1) := by decide +kernel
theorem dX8_layFrame_42 : decode cX8_layFrame 42 = .ok (.aload_n 0, 1) := by decide +kernel
theorem dX8_layFrame_43 : decode cX8_layFrame 43 = .ok (.getfield 41, 3) := by decide +kernel
theorem dX8_layFrame_46 : decode cX8_layFrame 46 = .ok (.iastore, 1) := by decide +kernel
theorem dX8_layFrame_47 : decode cX8_layFrame 47 = .ok (.aload_n 0, 1) := by decide +kernel
theorem dX8_layFrame_48 : decode cX8_layFrame 48 = .ok (.getfield 19, 3) := by decide +kernel
theorem dX8_layFrame_51 : decode cX8_layFrame 51 = .ok (.iconst 2, 1) := by decide +kernel
theorem dX8_layFrame_52 : decode cX8_layFrame 52 = .ok (.iload_n 1, 1) := by decide +kernel
theorem dX8_layFrame_53 : decode cX8_layFrame 53 = .ok (.iastore, 1) := by decide +kernel
theorem dX8_layFrame_54 : decode cX8_layFrame 54 = .ok (.iconst 3, 1) := by decide +kernel
theorem dX8_layFrame_55 : decode cX8_layFrame 55 = .ok (.istore_n 2, 1) := by decide +kernel
theorem dX8_layFrame_56 : decode cX8_layFrame 56 = .ok (.iload_n 2, 1) := by decide +kernel
theorem dX8_layFrame_57 : decode cX8_layFrame 57 = .ok (.aload_n 0, 1) := by decide +kernel
theorem dX8_layFrame_58 : decode cX8_layFrame 58 = .ok (.getfield 65, 3) := by decide +kernel
theorem dX8_layFrame_61 : decode cX8_layFrame 61 = .ok (.if_icmp .ge 34, 3) := by decide +kernel
theorem dX8_layFrame_64 : decode cX8_layFrame 64 = .ok (.aload_n 0, 1) := by decide +kernel
theorem dX8_layFrame_65 : decode cX8_layFrame 65 = .ok (.getfield 19, 3) := by decide +kernel
theorem dX8_layFrame_68 : decode cX8_layFrame 68 = .ok (.iload_n 2, 1) := by decide +kernel
theorem dX8_layFrame_69 : decode cX8_layFrame 69 = .ok (.iload_n 2, 1) := by decide +kernel
theorem dX8_layFrame_70 : decode cX8_layFrame 70 = .ok (.iconst 3, 1) := by decide +kernel
theorem dX8_layFrame_71 : decode cX8_layFrame 71 = .ok (.isub, 1) := by decide +kernel
theorem dX8_layFrame_72 : decode cX8_layFrame 72 = .ok (.iload_n 1, 1) := by decide +kernel
theorem dX8_layFrame_73 : decode cX8_layFrame 73 = .ok (.if_icmp .ge 14, 3) := by decide +kernel
theorem dX8_layFrame_76 : decode cX8_layFrame 76 = .ok (.aload_n 0, 1) := by decide +kernel
theorem dX8_layFrame_77 : decode cX8_layFrame 77 = .ok (.getfield 13, 3) := by decide +kernel
theorem dX8_layFrame_80 : decode cX8_layFrame 80 = .ok (.iload_n 2, 1) := by decide +kernel
theorem dX8_layFrame_81 : decode cX8_layFrame 81 = .ok (.iconst 1, 1) := by decide +kernel
theorem dX8_layFrame_82 : decode cX8_layFrame 82 = .ok (.isub, 1) := by decide +kernel
theorem dX8_layFrame_83 : decode cX8_layFrame 83 = .ok (.iaload, 1) := by decide +kernel
theorem dX8_layFrame_84 : decode cX8_layFrame 84 = .ok (.goto 4, 3) := by decide +kernel
theorem dX8_layFrame_87 : decode cX8_layFrame 87 = .ok (.iconst 0, 1) := by decide +kernel
theorem dX8_layFrame_88 : decode cX8_layFrame 88 = .ok (.iastore, 1) := by decide +kernel
theorem dX8_layFrame_89 : decode cX8_layFrame 89 = .ok (.iinc 2 1, 3) := by decide +kernel
theorem dX8_layFrame_92 : decode cX8_layFrame 92 = .ok (.goto (-36), 3) := by decide +kernel
theorem dX8_layFrame_95 : decode cX8_layFrame 95 = .ok (.aload_n 0, 1) := by decide +kernel
theorem dX8_layFrame_96 : decode cX8_layFrame 96 = .ok (.aload_n 0, 1) := by decide +kernel
theorem dX8_layFrame_97 : decode cX8_layFrame 97 = .ok (.getfield 65, 3) := by decide +kernel
theorem dX8_layFrame_100 : decode cX8_layFrame 100 = .ok (.invokevirtual 68, 3) := by decide +kernel
theorem dX8_layFrame_103 : decode cX8_layFrame 103 = .ok (.istore_n 2, 1) := by decide +kernel
theorem dX8_layFrame_104 : decode cX8_layFrame 104 = .ok (.iconst 0, 1) := by decide +kernel
theorem dX8_layFrame_105 : decode cX8_layFrame 105 = .ok (.istore_n 3, 1) := by decide +kernel
theorem dX8_layFrame_106 : decode cX8_layFrame 106 = .ok (.iload_n 3, 1) := by decide +kernel
theorem dX8_layFrame_107 : decode cX8_layFrame 107 = .ok (.iconst 4, 1) := by decide +kernel
theorem dX8_layFrame_108 : decode cX8_layFrame 108 = .ok (.if_icmp .ge 30, 3) := by decide +kernel
theorem dX8_layFrame_111 : decode cX8_layFrame 111 = .ok (.aload_n 0, 1) := by decide +kernel
theorem dX8_layFrame_112 : decode cX8_layFrame 112 = .ok (.getfield 19, 3) := by decide +kernel
theorem dX8_layFrame_115 : decode cX8_layFrame 115 = .ok (.aload_n 0, 1) := by decide +kernel
theorem dX8_layFrame_116 : decode cX8_layFrame 116 = .ok (.getfield 65, 3) := by decide +kernel
theorem dX8_layFrame_119 : decode cX8_layFrame 119 = .ok (.iload_n 3, 1) := by decide +kernel
theorem dX8_layFrame_120 : decode cX8_layFrame 120 = .ok (.iadd, 1) := by decide +kernel
theorem dX8_layFrame_121 : decode cX8_layFrame 121 = .ok (.iload_n 2, 1) := by decide +kernel
theorem dX8_layFrame_122 : decode cX8_layFrame 122 = .ok (.bipush 8, 2) := by decide +kernel
theorem dX8_layFrame_124 : decode cX8_layFrame 124 = .ok (.iload_n 3, 1) := by decide +kernel
theorem dX8_layFrame_125 : decode cX8_layFrame 125 = .ok (.imul, 1) := by decide +kernel
theorem dX8_layFrame_126 : decode cX8_layFrame 126 = .ok (.iushr, 1) := by decide +kernel
theorem dX8_layFrame_127 : decode cX8_layFrame 127 = .ok (.sipush 255, 3) := by decide +kernel
theorem dX8_layFrame_130 : decode cX8_layFrame 130 = .ok (.iand, 1) := by decide +kernel
theorem dX8_layFrame_131 : decode cX8_layFrame 131 = .ok (.iastore, 1) := by decide +kernel
theorem dX8_layFrame_132 : decode cX8_layFrame 132 = .ok (.iinc 3 1, 3) := by decide +kernel
theorem dX8_layFrame_135 : decode cX8_layFrame 135 = .ok (.goto (-29), 3) := by decide +kernel
theorem dX8_layFrame_138 : decode cX8_layFrame 138 = .ok (.aload_n 0, 1) := by decide +kernel
theorem dX8_layFrame_139 : decode cX8_layFrame 139 = .ok (.bipush 24, 2) := by decide +kernel
theorem dX8_layFrame_141 : decode cX8_layFrame 141 = .ok (.invokevirtual 71, 3) := by decide +kernel
theorem dX8_layFrame_144 : decode cX8_layFrame 144 = .ok (.aload_n 0, 1) := by decide +kernel
theorem dX8_layFrame_145 : decode cX8_layFrame 145 = .ok (.bipush 17, 2) := by decide +kernel
theorem dX8_layFrame_147 : decode cX8_layFrame 147 = .ok (.invokevirtual 71, 3) := by decide +kernel
theorem dX8_layFrame_150 : decode cX8_layFrame 150 = .ok (.iconst 0, 1) := by decide +kernel
theorem dX8_layFrame_151 : decode cX8_layFrame 151 = .ok (.istore_n 3, 1) := by decide +kernel
theorem dX8_layFrame_152 : decode cX8_layFrame 152 = .ok (.iload_n 3, 1) := by decide +kernel
theorem dX8_layFrame_153 : decode cX8_layFrame 153 = .ok (.iconst 4, 1) := by decide +kernel
theorem dX8_layFrame_154 : decode cX8_layFrame 154 = .ok (.if_icmp .ge 27, 3) := by decide +kernel
theorem dX8_layFrame_157 : decode cX8_layFrame 157 = .ok (.aload_n 0, 1) := by decide +kernel
theorem dX8_layFrame_158 : decode cX8_layFrame 158 = .ok (.iload_n 3, 1) := by decide +kernel
theorem dX8_layFrame_159 : decode cX8_layFrame 159 = .ok (.iconst 3, 1) := by decide +kernel
theorem dX8_layFrame_160 : decode cX8_layFrame 160 = .ok (.if_icmp .ge 7, 3) := by decide +kernel
theorem dX8_layFrame_163 : decode cX8_layFrame 163 = .ok (.iconst 5, 1) := by decide +kernel
theorem dX8_layFrame_164 : decode cX8_layFrame 164 = .ok (.goto 5, 3) := by decide +kernel
theorem dX8_layFrame_167 : decode cX8_layFrame 167 = .ok (.bipush 13, 2) := by decide +kernel
theorem dX8_layFrame_169 : decode cX8_layFrame 169 = .ok (.invokestatic 58, 3) := by decide +kernel
theorem dX8_layFrame_172 : decode cX8_layFrame 172 = .ok (.invokevirtual 71, 3) := by decide +kernel
theorem dX8_layFrame_175 : decode cX8_layFrame 175 = .ok (.iinc 3 1, 3) := by decide +kernel
theorem dX8_layFrame_178 : decode cX8_layFrame 178 = .ok (.goto (-26), 3) := by decide +kernel
theorem dX8_layFrame_181 : decode cX8_layFrame 181 = .ok (.iconst 0, 1) := by decide +kernel
theorem dX8_layFrame_182 : decode cX8_layFrame 182 = .ok (.istore_n 3, 1) := by decide +kernel
theorem dX8_layFrame_183 : decode cX8_layFrame 183 = .ok (.iload_n 3, 1) := by decide +kernel
theorem dX8_layFrame_184 : decode cX8_layFrame 184 = .ok (.aload_n 0, 1) := by decide +kernel
theorem dX8_layFrame_185 : decode cX8_layFrame 185 = .ok (.getfield 65, 3) := by decide +kernel
theorem dX8_layFrame_188 : decode cX8_layFrame 188 = .ok (.iconst 4, 1) := by decide +kernel
theorem dX8_layFrame_189 : decode cX8_layFrame 189 = .ok (.iadd, 1) := by decide +kernel
theorem dX8_layFrame_190 : decode cX8_layFrame 190 = .ok (.if_icmp .ge 40, 3) := by decide +kernel
theorem dX8_layFrame_193 : decode cX8_layFrame 193 = .ok (.aload_n 0, 1) := by decide +kernel
theorem dX8_layFrame_194 : decode cX8_layFrame 194 = .ok (.aload_n 0, 1) := by decide +kernel
theorem dX8_layFrame_195 : decode cX8_layFrame 195 = .ok (.getfield 19, 3) := by decide +kernel
theorem dX8_layFrame_198 : decode cX8_layFrame 198 = .ok (.iload_n 3, 1) := by decide +kernel
theorem dX8_layFrame_199 : decode cX8_layFrame 199 = .ok (.iaload, 1) := by decide +kernel
theorem dX8_layFrame_200 : decode cX8_layFrame 200 = .ok (.bipush 15, 2) := by decide +kernel
theorem dX8_layFrame_202 : decode cX8_layFrame 202 = .ok (.iand, 1) := by decide +kernel
theorem dX8_layFrame_203 : decode cX8_layFrame 203 = .ok (.invokestatic 58, 3) := by decide +kernel
theorem dX8_layFrame_206 : decode cX8_layFrame 206 = .ok (.invokevirtual 71, 3) := by decide +kernel
theorem dX8_layFrame_209 : decode cX8_layFrame 209 = .ok (.aload_n 0, 1) := by decide +kernel
theorem dX8_layFrame_210 : decode cX8_layFrame 210 = .ok (.aload_n 0, 1) := by decide +kernel
theorem dX8_layFrame_211 : decode cX8_layFrame 211 = .ok (.getfield 19, 3) := by decide +kernel
theorem dX8_layFrame_214 : decode cX8_layFrame 214 = .ok (.iload_n 3, 1) := by decide +kernel
theorem dX8_layFrame_215 : decode cX8_layFrame 215 = .ok (.iaload, 1) := by decide +kernel
theorem dX8_layFrame_216 : decode cX8_layFrame 216 = .ok (.iconst 4, 1) := by decide +kernel
theorem dX8_layFrame_217 : decode cX8_layFrame 217 = .ok (.ishr, 1) := by decide +kernel
theorem dX8_layFrame_218 : decode cX8_layFrame 218 = .ok (.invokestatic 58, 3) := by decide +kernel
theorem dX8_layFrame_221 : decode cX8_layFrame 221 = .ok (.invokevirtual 71, 3) := by decide +kernel
theorem dX8_layFrame_224 : decode cX8_layFrame 224 = .ok (.iinc 3 1, 3) := by decide +kernel
theorem dX8_layFrame_227 : decode cX8_layFrame 227 = .ok (.goto (-44), 3) := by decide +kernel
theorem dX8_layFrame_230 : decode cX8_layFrame 230 = .ok (.aload_n 0, 1) := by decide +kernel
theorem dX8_layFrame_231 : decode cX8_layFrame 231 = .ok (.bipush 13, 2) := by decide +kernel
theorem dX8_layFrame_233 : decode cX8_layFrame 233 = .ok (.invokevirtual 71, 3) := by decide +kernel
theorem dX8_layFrame_236 : decode cX8_layFrame 236 = .ok (.aload_n 0, 1) := by decide +kernel
theorem dX8_layFrame_237 : decode cX8_layFrame 237 = .ok (.bipush 7, 2) := by decide +kernel
theorem dX8_layFrame_239 : decode cX8_layFrame 239 = .ok (.invokevirtual 71, 3) := by decide +kernel
theorem dX8_layFrame_242 : decode cX8_layFrame 242 = .ok (.aload_n 0, 1) := by decide +kernel
theorem dX8_layFrame_243 : decode cX8_layFrame 243 = .ok (.dup, 1) := by decide +kernel
theorem dX8_layFrame_244 : decode cX8_layFrame 244 = .ok (.getfield 54, 3) := by decide +kernel
theorem dX8_layFrame_247 : decode cX8_layFrame 247 = .ok (.iconst 1, 1) := by decide +kernel
theorem dX8_layFrame_248 : decode cX8_layFrame 248 = .ok (.isub, 1) := by decide +kernel
theorem dX8_layFrame_249 : decode cX8_layFrame 249 = .ok (.putfield 54, 3) := by decide +kernel
theorem dX8_layFrame_252 : decode cX8_layFrame 252 = .ok (.iconst 0, 1) := by decide +kernel
theorem dX8_layFrame_253 : decode cX8_layFrame 253 = .ok (.istore_n 3, 1) := by decide +kernel
theorem dX8_layFrame_254 : decode cX8_layFrame 254 = .ok (.iload_n 3, 1) := by decide +kernel
theorem dX8_layFrame_255 : decode cX8_layFrame 255 = .ok (.bipush 32, 2) := by decide +kernel
theorem dX8_layFrame_257 : decode cX8_layFrame 257 = .ok (.aload_n 0, 1) := by decide +kernel
theorem dX8_layFrame_258 : decode cX8_layFrame 258 = .ok (.getfield 54, 3) := by decide +kernel
theorem dX8_layFrame_261 : decode cX8_layFrame 261 = .ok (.imul, 1) := by decide +kernel
theorem dX8_layFrame_262 : decode cX8_layFrame 262 = .ok (.if_icmp .ge 24, 3) := by decide +kernel
theorem dX8_layFrame_265 : decode cX8_layFrame 265 = .ok (.aload_n 0, 1) := by decide +kernel
theorem dX8_layFrame_266 : decode cX8_layFrame 266 = .ok (.getfield 13, 3) := by decide +kernel
theorem dX8_layFrame_269 : decode cX8_layFrame 269 = .ok (.iload_n 3, 1) := by decide +kernel
theorem dX8_layFrame_270 : decode cX8_layFrame 270 = .ok (.aload_n 0, 1) := by decide +kernel
theorem dX8_layFrame_271 : decode cX8_layFrame 271 = .ok (.getfield 13, 3) := by decide +kernel
theorem dX8_layFrame_274 : decode cX8_layFrame 274 = .ok (.iload_n 3, 1) := by decide +kernel
theorem dX8_layFrame_275 : decode cX8_layFrame 275 = .ok (.bipush 32, 2) := by decide +kernel
theorem dX8_layFrame_277 : decode cX8_layFrame 277 = .ok (.iadd, 1) := by decide +kernel
theorem dX8_layFrame_278 : decode cX8_layFrame 278 = .ok (.iaload, 1) := by decide +kernel
theorem dX8_layFrame_279 : decode cX8_layFrame 279 = .ok (.iastore, 1) := by decide +kernel
theorem dX8_layFrame_280 : decode cX8_layFrame 280 = .ok (.iinc 3 1, 3) := by decide +kernel
theorem dX8_layFrame_283 : decode cX8_layFrame 283 = .ok (.goto (-29), 3) := by decide +kernel
theorem dX8_layFrame_286 : decode cX8_layFrame 286 = .ok (.return_, 1) := by decide +kernel
set_option maxRecDepth 20000 in
theorem ggX8_nextBit_X8_layFrame : GoodIn wsX8_nextBit wsX8_layFrame := goodIn_r _ [11, 12, 13, 14, 15, 5, 16, 17, 18, 10, 19, 20, 21, 22, 23, 24, 6, 2, 25, 26, 27, 28, 29, 30, 31, 32, 33, 34, 35, 36, 37, 38, 39, 40, 41, 42, 43, 44, 45, 46, 47, 48, 49, 50, 51, 52, 53, 54, 55, 56, 57, 58, 59, 60, 61, 62, 63, 64, 65] (by decide +kernel) (by decide +kernel)
set_option maxRecDepth 20000 in
theorem gX8_nextBit_X8_layFrame : GoodIn wsX8_nextBit (wsV RX8 85 RX8 yX8_layFrame wsX8_layFrame) := goodIn_app (goodIn_of _ (by decide +kernel)) ggX8_nextBit_X8_layFrame
set_option maxRecDepth 20000 in
theorem ggX8_nextBit_X8_lay : GoodIn wsX8_nextBit wsX8_lay := goodIn_r _ [24, 6, 2, 28, 29, 30, 31, 32, 33, 34, 35, 36, 37, 38, 39, 40, 41, 42, 43, 44, 45, 46, 47, 48, 49, 50, 51, 52, 53, 54, 55, 56, 57, 58, 59, 60, 61, 62, 63, 64, 65] (by decide +kernel) (by decide +kernel)
set_option maxRecDepth 20000 in
theorem gX8_nextBit_X8_lay : GoodIn wsX8_nextBit (wsV RX8 71 RX8 yX8_lay wsX8_lay) := goodIn_app (goodIn_of _ (by decide +kernel)) ggX8_nextBit_X8_lay
theorem dX8_nextBit_0 : decode cX8_nextBit 0 = .ok (.aload_n 0, 1) := by decide +kernel
theorem dX8_nextBit_1 : decode cX8_nextBit 1 = .ok (.getfield 75, 3) := by decide +kernel
theorem dX8_nextBit_4 : decode cX8_nextBit 4 = .ok (.aload_n 0, 1) := by decide +kernel
theorem dX8_nextBit_5 : decode cX8_nextBit 5 = .ok (.getfield 62, 3) := by decide +kernel
theorem dX8_nextBit_8 : decode cX8_nextBit 8 = .ok (.if_icmp .ne 87, 3) := by decide +kernel
theorem dX8_nextBit_11 : decode cX8_nextBit 11 = .ok (.aload_n 0, 1) := by decide +kernel
theorem dX8_nextBit_12 : decode cX8_nextBit 12 = .ok (.aload_n 0, 1) := by decide +kernel
theorem dX8_nextBit_13 : decode cX8_nextBit 13 = .ok (.getfield 78, 3) := by decide +kernel
theorem dX8_nextBit_16 : decode cX8_nextBit 16 = .ok (.ifCond .eq 7, 3) := by decide +kernel
theorem dX8_nextBit_19 : decode cX8_nextBit 19 = .ok (.iconst 0, 1) := by decide +kernel
theorem dX8_nextBit_20 : decode cX8_nextBit 20 = .ok (.goto 7, 3) := by decide +kernel
theorem dX8_nextBit_23 : decode cX8_nextBit 23 = .ok (.aload_n 0, 1) := by decide +kernel
theorem dX8_nextBit_24 : decode cX8_nextBit 24 = .ok (.getfield 82, 3) := by decide +kernel
theorem dX8_nextBit_27 : decode cX8_nextBit 27 = .ok (.putfield 82, 3) := by decide +kernel
theorem dX8_nextBit_30 : decode cX8_nextBit 30 = .ok (.aload_n 0, 1) := by decide +kernel
theorem dX8_nextBit_31 : decode cX8_nextBit 31 = .ok (.iconst 0, 1) := by decide +kernel
theorem dX8_nextBit_32 : decode cX8_nextBit 32 = .ok (.putfield 75, 3) := by decide +kernel
theorem dX8_nextBit_35 : decode cX8_nextBit 35 = .ok (.aload_n 0, 1) := by decide +kernel
theorem dX8_nextBit_36 : decode cX8_nextBit 36 = .ok (.iconst 0, 1) := by decide +kernel
theorem dX8_nextBit_37 : decode cX8_nextBit 37 = .ok (.putfield 62, 3) := by decide +kernel
theorem dX8_nextBit_40 : decode cX8_nextBit 40 = .ok (.aload_n 0, 1) := by decide +kernel
theorem dX8_nextBit_41 : decode cX8_nextBit 41 = .ok (.aload_n 0, 1) := by decide +kernel
theorem dX8_nextBit_42 : decode cX8_nextBit 42 = .ok (.getfield 54, 3) := by decide +kernel
theorem dX8_nextBit_45 : decode cX8_nextBit 45 = .ok (.ifCond .le 16, 3) := by decide +kernel
theorem dX8_nextBit_48 : decode cX8_nextBit 48 = .ok (.aload_n 0, 1) := by decide +kernel
theorem dX8_nextBit_49 : decode cX8_nextBit 49 = .ok (.getfield 82, 3) := by decide +kernel
theorem dX8_nextBit_52 : decode cX8_nextBit 52 = .ok (.bipush 6, 2) := by decide +kernel
theorem dX8_nextBit_54 : decode cX8_nextBit 54 = .ok (.if_icmp .lt 7, 3) := by decide +kernel
theorem dX8_nextBit_57 : decode cX8_nextBit 57 = .ok (.iconst 1, 1) := by decide +kernel
theorem dX8_nextBit_58 : decode cX8_nextBit 58 = .ok (.goto 4, 3) := by decide +kernel
theorem dX8_nextBit_61 : decode cX8_nextBit 61 = .ok (.iconst 0, 1) := by decide +kernel
theorem dX8_nextBit_62 : decode cX8_nextBit 62 = .ok (.putfield 78, 3) := by decide +kernel
theorem dX8_nextBit_65 : decode cX8_nextBit 65 = .ok (.aload_n 0, 1) := by decide +kernel
theorem dX8_nextBit_66 : decode cX8_nextBit 66 = .ok (.getfield 78, 3) := by decide +kernel
theorem dX8_nextBit_69 : decode cX8_nextBit 69 = .ok (.ifCond .eq 10, 3) := by decide +kernel
theorem dX8_nextBit_72 : decode cX8_nextBit 72 = .ok (.aload_n 0, 1) := by decide +kernel
theorem dX8_nextBit_73 : decode cX8_nextBit 73 = .ok (.invokevirtual 85, 3) := by decide +kernel
theorem dX8_nextBit_76 : decode cX8_nextBit 76 = .ok (.goto 19, 3) := by decide +kernel
theorem dX8_nextBit_79 : decode cX8_nextBit 79 = .ok (.aload_n 0, 1) := by decide +kernel
theorem dX8_nextBit_80 : decode cX8_nextBit 80 = .ok (.bipush 31, 2) := by decide +kernel
theorem dX8_nextBit_82 : decode cX8_nextBit 82 = .ok (.invokevirtual 71, 3) := by decide +kernel
theorem dX8_nextBit_85 : decode cX8_nextBit 85 = .ok (.aload_n 0, 1) := by decide +kernel
theorem dX8_nextBit_86 : decode cX8_nextBit 86 = .ok (.dup, 1) := by decide +kernel
theorem dX8_nextBit_87 : decode cX8_nextBit 87 = .ok (.getfield 82, 3) := by decide +kernel
theorem dX8_nextBit_90 : decode cX8_nextBit 90 = .ok (.iconst 1, 1) := by decide +kernel
theorem dX8_nextBit_91 : decode cX8_nextBit 91 = .ok (.iadd, 1) := by decide +kernel
theorem dX8_nextBit_92 : decode cX8_nextBit 92 = .ok (.putfield 82, 3) := by decide +kernel
theorem dX8_nextBit_95 : decode cX8_nextBit 95 = .ok (.aload_n 0, 1) := by decide +kernel
theorem dX8_nextBit_96 : decode cX8_nextBit 96 = .ok (.dup, 1) := by decide +kernel
theorem dX8_nextBit_97 : decode cX8_nextBit 97 = .ok (.getfield 75, 3) := by decide +kernel
theorem dX8_nextBit_100 : decode cX8_nextBit 100 = .ok (.iconst 1, 1) := by decide +kernel
theorem dX8_nextBit_101 : decode cX8_nextBit 101 = .ok (.iadd, 1) := by decide +kernel
theorem dX8_nextBit_102 : decode cX8_nextBit 102 = .ok (.putfield 75, 3) := by decide +kernel
theorem dX8_nextBit_105 : decode cX8_nextBit 105 = .ok (.aload_n 0, 1) := by decide +kernel
theorem dX8_nextBit_106 : decode cX8_nextBit 106 = .ok (.getfield 16, 3) := by decide +kernel
theorem dX8_nextBit_109 : decode cX8_nextBit 109 = .ok (.aload_n 0, 1) := by decide +kernel
theorem dX8_nextBit_110 : decode cX8_nextBit 110 = .ok (.getfield 75, 3) := by decide +kernel
theorem dX8_nextBit_113 : decode cX8_nextBit 113 = .ok (.iconst 1, 1) := by decide +kernel
theorem dX8_nextBit_114 : decode cX8_nextBit 114 = .ok (.isub, 1) := by decide +kernel
theorem dX8_nextBit_115 : decode cX8_nextBit 115 = .ok (.iaload, 1) := by decide +kernel
theorem dX8_nextBit_116 : decode cX8_nextBit 116 = .ok (.ireturn, 1) := by decide +kernel
theorem dX8_keyOf_0 : decode cX8_keyOf 0 = .ok (.iload_n 0, 1) := by decide +kernel
theorem dX8_keyOf_1 : decode cX8_keyOf 1 = .ok (.bipush 8, 2) := by decide +kernel
theorem dX8_keyOf_3 : decode cX8_keyOf 3 = .ok (.ishr, 1) := by decide +kernel
theorem dX8_keyOf_4 : decode cX8_keyOf 4 = .ok (.iconst 1, 1) := by decide +kernel
theorem dX8_keyOf_5 : decode cX8_keyOf 5 = .ok (.iand, 1) := by decide +kernel
theorem dX8_keyOf_6 : decode cX8_keyOf 6 = .ok (.iload_n 0, 1) := by decide +kernel
theorem dX8_keyOf_7 : decode cX8_keyOf 7 = .ok (.bipush 10, 2) := by decide +kernel
theorem dX8_keyOf_9 : decode cX8_keyOf 9 = .ok (.ishr, 1) := by decide +kernel
theorem dX8_keyOf_10 : decode cX8_keyOf 10 = .ok (.iconst 1, 1) := by decide +kernel
theorem dX8_keyOf_11 : decode cX8_keyOf 11 = .ok (.iand, 1) := by decide +kernel
theorem dX8_keyOf_12 : decode cX8_keyOf 12 = .ok (.ixor, 1) := by decide +kernel
theorem dX8_keyOf_13 : decode cX8_keyOf 13 = .ok (.ireturn, 1) := by decide +kernel
theorem dX8_levelOf_0 : decode cX8_levelOf 0 = .ok (.iload_n 0, 1) := by decide +kernel
theorem dX8_levelOf_1 : decode cX8_levelOf 1 = .ok (.iconst 1, 1) := by decide +kernel
theorem dX8_levelOf_2 : decode cX8_levelOf 2 = .ok (.if_icmp .ne 7, 3) := by decide +kernel
theorem dX8_levelOf_5 : decode cX8_levelOf 5 = .ok (.iconst 1, 1) := by decide +kernel
theorem dX8_levelOf_6 : decode cX8_levelOf 6 = .ok (.goto 13, 3) := by decide +kernel
theorem dX8_levelOf_9 : decode cX8_levelOf 9 = .ok (.iload_n 0, 1) := by decide +kernel
theorem dX8_levelOf_10 : decode cX8_levelOf 10 = .ok (.iconst 3, 1) := by decide +kernel
theorem dX8_levelOf_11 : decode cX8_levelOf 11 = .ok (.if_icmp .ne 7, 3) := by decide +kernel
theorem dX8_levelOf_14 : decode cX8_levelOf 14 = .ok (.iconst (-1), 1) := by decide +kernel
theorem dX8_levelOf_15 : decode cX8_levelOf 15 = .ok (.goto 4, 3) := by decide +kernel
theorem dX8_levelOf_18 : decode cX8_levelOf 18 = .ok (.iconst 0, 1) := by decide +kernel
theorem dX8_levelOf_19 : decode cX8_levelOf 19 = .ok (.ireturn, 1) := by decide +kernel
theorem dX8_hit_0 : decode cX8_hit 0 = .ok (.iload_n 1, 1) := by decide +kernel
theorem dX8_hit_1 : decode cX8_hit 1 = .ok (.iconst 1, 1) := by decide +kernel
theorem dX8_hit_2 : decode cX8_hit 2 = .ok (.if_icmp .lt 19, 3) := by decide +kernel
theorem dX8_hit_5 : decode cX8_hit 5 = .ok (.iload_n 1, 1) := by decide +kernel
theorem dX8_hit_6 : decode cX8_hit 6 = .ok (.bipush 100, 2) := by decide +kernel
theorem dX8_hit_8 : decode cX8_hit 8 = .ok (.if_icmp .gt 13, 3) := by decide +kernel
theorem dX8_hit_11 : decode cX8_hit 11 = .ok (.iload_n 2, 1) := by decide +kernel
theorem dX8_hit_12 : decode cX8_hit 12 = .ok (.iconst (-1), 1) := by decide +kernel
theorem dX8_hit_13 : decode cX8_hit 13 = .ok (.if_icmp .lt 8, 3) := by decide +kernel
theorem dX8_hit_16 : decode cX8_hit 16 = .ok (.iload_n 2, 1) := by decide +kernel
theorem dX8_hit_17 : decode cX8_hit 17 = .ok (.iconst 1, 1) := by decide +kernel
theorem dX8_hit_18 : decode cX8_hit 18 = .ok (.if_icmp .le 5, 3) := by decide +kernel
theorem dX8_hit_21 : decode cX8_hit 21 = .ok (.iconst 0, 1) := by decide +kernel
theorem dX8_hit_22 : decode cX8_hit 22 = .ok (.ireturn, 1) := by decide +kernel
theorem dX8_hit_23 : decode cX8_hit 23 = .ok (.aload_n 0, 1) := by decide +kernel
