theorem dX8_judge_141 : decode cX8_judge 141 = .ok (.iinc 2 1, 3) := by decide +kernel
theorem dX8_judge_144 : decode cX8_judge 144 = .ok (.goto (-36), 3) := by decide +kernel
theorem dX8_judge_147 : decode cX8_judge 147 = .ok (.aload_n 0, 1) := by decide +kernel
theorem dX8_judge_148 : decode cX8_judge 148 = .ok (.getfield 19, 3) := by decide +kernel
theorem dX8_judge_151 : decode cX8_judge 151 = .ok (.iconst 2, 1) := by decide +kernel
theorem dX8_judge_152 : decode cX8_judge 152 = .ok (.iaload, 1) := by decide +kernel
theorem dX8_judge_153 : decode cX8_judge 153 = .ok (.istore_n 2, 1) := by decide +kernel
theorem dX8_judge_154 : decode cX8_judge 154 = .ok (.iload_n 2, 1) := by decide +kernel
theorem dX8_judge_155 : decode cX8_judge 155 = .ok (.bipush 24, 2) := by decide +kernel
theorem dX8_judge_157 : decode cX8_judge 157 = .ok (.if_icmp .gt 25, 3) := by decide +kernel
theorem dX8_judge_160 : decode cX8_judge 160 = .ok (.aload_n 0, 1) := by decide +kernel
theorem dX8_judge_161 : decode cX8_judge 161 = .ok (.getfield 65, 3) := by decide +kernel
theorem dX8_judge_164 : decode cX8_judge 164 = .ok (.bipush 7, 2) := by decide +kernel
theorem dX8_judge_166 : decode cX8_judge 166 = .ok (.iload_n 2, 1) := by decide +kernel
theorem dX8_judge_167 : decode cX8_judge 167 = .ok (.bipush 6, 2) := by decide +kernel
theorem dX8_judge_169 : decode cX8_judge 169 = .ok (.if_icmp .ge 8, 3) := by decide +kernel
theorem dX8_judge_172 : decode cX8_judge 172 = .ok (.bipush 6, 2) := by decide +kernel
theorem dX8_judge_174 : decode cX8_judge 174 = .ok (.goto 4, 3) := by decide +kernel
theorem dX8_judge_177 : decode cX8_judge 177 = .ok (.iload_n 2, 1) := by decide +kernel
theorem dX8_judge_178 : decode cX8_judge 178 = .ok (.iadd, 1) := by decide +kernel
theorem dX8_judge_179 : decode cX8_judge 179 = .ok (.if_icmp .eq 6, 3) := by decide +kernel
theorem dX8_judge_182 : decode cX8_judge 182 = .ok (.bipush 6, 2) := by decide +kernel
theorem dX8_judge_184 : decode cX8_judge 184 = .ok (.ireturn, 1) := by decide +kernel
theorem dX8_judge_185 : decode cX8_judge 185 = .ok (.aload_n 0, 1) := by decide +kernel
theorem dX8_judge_186 : decode cX8_judge 186 = .ok (.getfield 19, 3) := by decide +kernel
theorem dX8_judge_189 : decode cX8_judge 189 = .ok (.iconst 0, 1) := by decide +kernel
theorem dX8_judge_190 : decode cX8_judge 190 = .ok (.iaload, 1) := by decide +kernel
theorem dX8_judge_191 : decode cX8_judge 191 = .ok (.aload_n 0, 1) := by decide +kernel
theorem dX8_judge_192 : decode cX8_judge 192 = .ok (.getfield 44, 3) := by decide +kernel
theorem dX8_judge_195 : decode cX8_judge 195 = .ok (.if_icmp .eq 18, 3) := by decide +kernel
theorem dX8_judge_198 : decode cX8_judge 198 = .ok (.aload_n 0, 1) := by decide +kernel
theorem dX8_judge_199 : decode cX8_judge 199 = .ok (.getfield 19, 3) := by decide +kernel
theorem dX8_judge_202 : decode cX8_judge 202 = .ok (.iconst 0, 1) := by decide +kernel
theorem dX8_judge_203 : decode cX8_judge 203 = .ok (.iaload, 1) := by decide +kernel
theorem dX8_judge_204 : decode cX8_judge 204 = .ok (.sipush 255, 3) := by decide +kernel
theorem dX8_judge_207 : decode cX8_judge 207 = .ok (.if_icmp .eq 6, 3) := by decide +kernel
theorem dX8_judge_210 : decode cX8_judge 210 = .ok (.bipush 7, 2) := by decide +kernel
theorem dX8_judge_212 : decode cX8_judge 212 = .ok (.ireturn, 1) := by decide +kernel
theorem dX8_judge_213 : decode cX8_judge 213 = .ok (.aload_n 0, 1) := by decide +kernel
theorem dX8_judge_214 : decode cX8_judge 214 = .ok (.iconst 1, 1) := by decide +kernel
theorem dX8_judge_215 : decode cX8_judge 215 = .ok (.putfield 170, 3) := by decide +kernel
theorem dX8_judge_218 : decode cX8_judge 218 = .ok (.aload_n 0, 1) := by decide +kernel
theorem dX8_judge_219 : decode cX8_judge 219 = .ok (.aload_n 0, 1) := by decide +kernel
theorem dX8_judge_220 : decode cX8_judge 220 = .ok (.getfield 19, 3) := by decide +kernel
theorem dX8_judge_223 : decode cX8_judge 223 = .ok (.iconst 1, 1) := by decide +kernel
theorem dX8_judge_224 : decode cX8_judge 224 = .ok (.iaload, 1) := by decide +kernel
theorem dX8_judge_225 : decode cX8_judge 225 = .ok (.putfield 173, 3) := by decide +kernel
theorem dX8_judge_228 : decode cX8_judge 228 = .ok (.aload_n 0, 1) := by decide +kernel
theorem dX8_judge_229 : decode cX8_judge 229 = .ok (.iload_n 2, 1) := by decide +kernel
theorem dX8_judge_230 : decode cX8_judge 230 = .ok (.putfield 176, 3) := by decide +kernel
theorem dX8_judge_233 : decode cX8_judge 233 = .ok (.iconst 0, 1) := by decide +kernel
theorem dX8_judge_234 : decode cX8_judge 234 = .ok (.istore_n 3, 1) := by decide +kernel
theorem dX8_judge_235 : decode cX8_judge 235 = .ok (.iload_n 3, 1) := by decide +kernel
theorem dX8_judge_236 : decode cX8_judge 236 = .ok (.iload_n 2, 1) := by decide +kernel
theorem dX8_judge_237 : decode cX8_judge 237 = .ok (.if_icmp .ge 23, 3) := by decide +kernel
theorem dX8_judge_240 : decode cX8_judge 240 = .ok (.aload_n 0, 1) := by decide +kernel
theorem dX8_judge_241 : decode cX8_judge 241 = .ok (.getfield 34, 3) := by decide +kernel
theorem dX8_judge_244 : decode cX8_judge 244 = .ok (.iload_n 3, 1) := by decide +kernel
theorem dX8_judge_245 : decode cX8_judge 245 = .ok (.aload_n 0, 1) := by decide +kernel
theorem dX8_judge_246 : decode cX8_judge 246 = .ok (.getfield 19, 3) := by decide +kernel
theorem dX8_judge_249 : decode cX8_judge 249 = .ok (.iconst 3, 1) := by decide +kernel
theorem dX8_judge_250 : decode cX8_judge 250 = .ok (.iload_n 3, 1) := by decide +kernel
theorem dX8_judge_251 : decode cX8_judge 251 = .ok (.iadd, 1) := by decide +kernel
theorem dX8_judge_252 : decode cX8_judge 252 = .ok (.iaload, 1) := by decide +kernel
theorem dX8_judge_253 : decode cX8_judge 253 = .ok (.iastore, 1) := by decide +kernel
theorem dX8_judge_254 : decode cX8_judge 254 = .ok (.iinc 3 1, 3) := by decide +kernel
theorem dX8_judge_257 : decode cX8_judge 257 = .ok (.goto (-22), 3) := by decide +kernel
theorem dX8_judge_260 : decode cX8_judge 260 = .ok (.iconst 0, 1) := by decide +kernel
theorem dX8_judge_261 : decode cX8_judge 261 = .ok (.ireturn, 1) := by decide +kernel
set_option maxRecDepth 20000 in
theorem ggX8_run_X8_pass : GoodIn wsX8_run wsX8_pass := goodIn_r _ [6, 7, 8, 9, 10, 11, 12, 13, 14, 15, 16, 5, 17, 18, 19, 20, 21, 22, 23, 24, 25, 26, 27, 28, 29, 30, 31, 32, 33, 34, 35, 36, 37, 38, 39, 40, 41, 42, 43, 44, 45, 46, 47, 48, 49, 50, 51, 52, 53, 54, 55, 56, 57, 58, 59, 60, 61, 62, 63, 64, 65, 1, 66, 67, 68, 69, 70, 71, 72, 73, 74, 75, 76, 77, 78, 79, 80, 81, 82, 83, 84, 85, 86, 87, 88, 89, 90, 91, 92, 93, 94, 95, 96, 97, 98, 99, 100, 101, 102, 103, 104, 105, 106, 107, 108, 109, 110, 111, 112, 113, 114, 115, 116, 117, 118, 119, 120, 121, 122, 123, 124, 125, 126, 127, 128, 129, 130, 131, 132, 133, 134, 135, 136] (by decide +kernel) (by decide +kernel)
set_option maxRecDepth 20000 in
theorem gX8_run_X8_pass : GoodIn wsX8_run (wsV RX8 179 RX8 yX8_pass wsX8_pass) := goodIn_app (goodIn_of _ (by decide +kernel)) ggX8_run_X8_pass
theorem dX8_run_0 : decode cX8_run 0 = .ok (.iload_n 1, 1) := by decide +kernel
theorem dX8_run_1 : decode cX8_run 1 = .ok (.iconst 1, 1) := by decide +kernel
theorem dX8_run_2 : decode cX8_run 2 = .ok (.if_icmp .lt 10, 3) := by decide +kernel
theorem dX8_run_5 : decode cX8_run 5 = .ok (.iload_n 1, 1) := by decide +kernel
theorem dX8_run_6 : decode cX8_run 6 = .ok (.sipush 400, 3) := by decide +kernel
theorem dX8_run_9 : decode cX8_run 9 = .ok (.if_icmp .le 5, 3) := by decide +kernel
theorem dX8_run_12 : decode cX8_run 12 = .ok (.iconst (-1), 1) := by decide +kernel
theorem dX8_run_13 : decode cX8_run 13 = .ok (.ireturn, 1) := by decide +kernel
theorem dX8_run_14 : decode cX8_run 14 = .ok (.aload_n 0, 1) := by decide +kernel
theorem dX8_run_15 : decode cX8_run 15 = .ok (.iconst 0, 1) := by decide +kernel
theorem dX8_run_16 : decode cX8_run 16 = .ok (.putfield 140, 3) := by decide +kernel
theorem dX8_run_19 : decode cX8_run 19 = .ok (.iconst 0, 1) := by decide +kernel
theorem dX8_run_20 : decode cX8_run 20 = .ok (.istore_n 2, 1) := by decide +kernel
theorem dX8_run_21 : decode cX8_run 21 = .ok (.iload_n 2, 1) := by decide +kernel
theorem dX8_run_22 : decode cX8_run 22 = .ok (.iload_n 1, 1) := by decide +kernel
theorem dX8_run_23 : decode cX8_run 23 = .ok (.if_icmp .ge 13, 3) := by decide +kernel
theorem dX8_run_26 : decode cX8_run 26 = .ok (.aload_n 0, 1) := by decide +kernel
theorem dX8_run_27 : decode cX8_run 27 = .ok (.invokevirtual 179, 3) := by decide +kernel
theorem dX8_run_30 : decode cX8_run 30 = .ok (.iinc 2 1, 3) := by decide +kernel
theorem dX8_run_33 : decode cX8_run 33 = .ok (.goto (-12), 3) := by decide +kernel
theorem dX8_run_36 : decode cX8_run 36 = .ok (.aload_n 0, 1) := by decide +kernel
theorem dX8_run_37 : decode cX8_run 37 = .ok (.getfield 140, 3) := by decide +kernel
theorem dX8_run_40 : decode cX8_run 40 = .ok (.ireturn, 1) := by decide +kernel
theorem dX8_waiting_0 : decode cX8_waiting 0 = .ok (.aload_n 0, 1) := by decide +kernel
theorem dX8_waiting_1 : decode cX8_waiting 1 = .ok (.getfield 54, 3) := by decide +kernel
theorem dX8_waiting_4 : decode cX8_waiting 4 = .ok (.ireturn, 1) := by decide +kernel
theorem dX8_sending_0 : decode cX8_sending 0 = .ok (.aload_n 0, 1) := by decide +kernel
theorem dX8_sending_1 : decode cX8_sending 1 = .ok (.getfield 78, 3) := by decide +kernel
theorem dX8_sending_4 : decode cX8_sending 4 = .ok (.ifCond .eq 18, 3) := by decide +kernel
theorem dX8_sending_7 : decode cX8_sending 7 = .ok (.aload_n 0, 1) := by decide +kernel
theorem dX8_sending_8 : decode cX8_sending 8 = .ok (.getfield 75, 3) := by decide +kernel
theorem dX8_sending_11 : decode cX8_sending 11 = .ok (.aload_n 0, 1) := by decide +kernel
theorem dX8_sending_12 : decode cX8_sending 12 = .ok (.getfield 62, 3) := by decide +kernel
theorem dX8_sending_15 : decode cX8_sending 15 = .ok (.if_icmp .ge 7, 3) := by decide +kernel
theorem dX8_sending_18 : decode cX8_sending 18 = .ok (.iconst 1, 1) := by decide +kernel
theorem dX8_sending_19 : decode cX8_sending 19 = .ok (.goto 4, 3) := by decide +kernel
theorem dX8_sending_22 : decode cX8_sending 22 = .ok (.iconst 0, 1) := by decide +kernel
theorem dX8_sending_23 : decode cX8_sending 23 = .ok (.ireturn, 1) := by decide +kernel
set_option maxRecDepth 20000 in
theorem ggX8_level_X8_levelOf : GoodIn wsX8_level wsX8_levelOf := goodIn_r _ [5] (by decide +kernel) (by decide +kernel)
set_option maxRecDepth 20000 in
theorem gX8_level_X8_levelOf : GoodIn wsX8_level (va_wsS RX8 101 yX8_levelOf wsX8_levelOf) := goodIn_app (goodIn_of _ (by decide +kernel)) ggX8_level_X8_levelOf
theorem dX8_level_0 : decode cX8_level 0 = .ok (.aload_n 0, 1) := by decide +kernel
theorem dX8_level_1 : decode cX8_level 1 = .ok (.getfield 98, 3) := by decide +kernel
theorem dX8_level_4 : decode cX8_level 4 = .ok (.invokestatic 101, 3) := by decide +kernel
theorem dX8_level_7 : decode cX8_level 7 = .ok (.ireturn, 1) := by decide +kernel
theorem dX8_register_0 : decode cX8_register 0 = .ok (.aload_n 0, 1) := by decide +kernel
theorem dX8_register_1 : decode cX8_register 1 = .ok (.getfield 37, 3) := by decide +kernel
theorem dX8_register_4 : decode cX8_register 4 = .ok (.ireturn, 1) := by decide +kernel
theorem dX8_state_0 : decode cX8_state 0 = .ok (.aload_n 0, 1) := by decide +kernel
theorem dX8_state_1 : decode cX8_state 1 = .ok (.getfield 107, 3) := by decide +kernel
theorem dX8_state_4 : decode cX8_state 4 = .ok (.ifCond .ne 7, 3) := by decide +kernel
theorem dX8_state_7 : decode cX8_state 7 = .ok (.iconst 0, 1) := by decide +kernel
theorem dX8_state_8 : decode cX8_state 8 = .ok (.goto 15, 3) := by decide +kernel
theorem dX8_state_11 : decode cX8_state 11 = .ok (.aload_n 0, 1) := by decide +kernel
theorem dX8_state_12 : decode cX8_state 12 = .ok (.getfield 131, 3) := by decide +kernel
theorem dX8_state_15 : decode cX8_state 15 = .ok (.ifCond .eq 7, 3) := by decide +kernel
theorem dX8_state_18 : decode cX8_state 18 = .ok (.iconst 2, 1) := by decide +kernel
theorem dX8_state_19 : decode cX8_state 19 = .ok (.goto 4, 3) := by decide +kernel
theorem dX8_state_22 : decode cX8_state 22 = .ok (.iconst 1, 1) := by decide +kernel
theorem dX8_state_23 : decode cX8_state 23 = .ok (.ireturn, 1) := by decide +kernel
theorem dX8_count_0 : decode cX8_count 0 = .ok (.iload_n 1, 1) := by decide +kernel
theorem dX8_count_1 : decode cX8_count 1 = .ok (.ifCond .lt 18, 3) := by decide +kernel
theorem dX8_count_4 : decode cX8_count 4 = .ok (.iload_n 1, 1) := by decide +kernel
theorem dX8_count_5 : decode cX8_count 5 = .ok (.bipush 10, 2) := by decide +kernel
theorem dX8_count_7 : decode cX8_count 7 = .ok (.if_icmp .gt 12, 3) := by decide +kernel
theorem dX8_count_10 : decode cX8_count 10 = .ok (.aload_n 0, 1) := by decide +kernel
theorem dX8_count_11 : decode cX8_count 11 = .ok (.getfield 31, 3) := by decide +kernel
theorem dX8_count_14 : decode cX8_count 14 = .ok (.iload_n 1, 1) := by decide +kernel
theorem dX8_count_15 : decode cX8_count 15 = .ok (.iaload, 1) := by decide +kernel
theorem dX8_count_16 : decode cX8_count 16 = .ok (.goto 4, 3) := by decide +kernel
theorem dX8_count_19 : decode cX8_count 19 = .ok (.iconst (-1), 1) := by decide +kernel
theorem dX8_count_20 : decode cX8_count 20 = .ok (.ireturn, 1) := by decide +kernel
theorem dX8_source_0 : decode cX8_source 0 = .ok (.aload_n 0, 1) := by decide +kernel
theorem dX8_source_1 : decode cX8_source 1 = .ok (.getfield 170, 3) := by decide +kernel
theorem dX8_source_4 : decode cX8_source 4 = .ok (.ifCond .eq 10, 3) := by decide +kernel
theorem dX8_source_7 : decode cX8_source 7 = .ok (.aload_n 0, 1) := by decide +kernel
theorem dX8_source_8 : decode cX8_source 8 = .ok (.getfield 173, 3) := by decide +kernel
theorem dX8_source_11 : decode cX8_source 11 = .ok (.goto 4, 3) := by decide +kernel
theorem dX8_source_14 : decode cX8_source 14 = .ok (.iconst (-1), 1) := by decide +kernel
theorem dX8_source_15 : decode cX8_source 15 = .ok (.ireturn, 1) := by decide +kernel
theorem dX8_length_0 : decode cX8_length 0 = .ok (.aload_n 0, 1) := by decide +kernel
theorem dX8_length_1 : decode cX8_length 1 = .ok (.getfield 170, 3) := by decide +kernel
theorem dX8_length_4 : decode cX8_length 4 = .ok (.ifCond .eq 10, 3) := by decide +kernel
theorem dX8_length_7 : decode cX8_length 7 = .ok (.aload_n 0, 1) := by decide +kernel
theorem dX8_length_8 : decode cX8_length 8 = .ok (.getfield 176, 3) := by decide +kernel
theorem dX8_length_11 : decode cX8_length 11 = .ok (.goto 4, 3) := by decide +kernel
theorem dX8_length_14 : decode cX8_length 14 = .ok (.iconst (-1), 1) := by decide +kernel
theorem dX8_length_15 : decode cX8_length 15 = .ok (.ireturn, 1) := by decide +kernel
theorem dX8_byteOf_0 : decode cX8_byteOf 0 = .ok (.aload_n 0, 1) := by decide +kernel
theorem dX8_byteOf_1 : decode cX8_byteOf 1 = .ok (.getfield 170, 3) := by decide +kernel
theorem dX8_byteOf_4 : decode cX8_byteOf 4 = .ok (.ifCond .eq 24, 3) := by decide +kernel
theorem dX8_byteOf_7 : decode cX8_byteOf 7 = .ok (.iload_n 1, 1) := by decide +kernel
theorem dX8_byteOf_8 : decode cX8_byteOf 8 = .ok (.ifCond .lt 20, 3) := by decide +kernel
theorem dX8_byteOf_11 : decode cX8_byteOf 11 = .ok (.iload_n 1, 1) := by decide +kernel
theorem dX8_byteOf_12 : decode cX8_byteOf 12 = .ok (.aload_n 0, 1) := by decide +kernel
theorem dX8_byteOf_13 : decode cX8_byteOf 13 = .ok (.getfield 176, 3) := by decide +kernel
theorem dX8_byteOf_16 : decode cX8_byteOf 16 = .ok (.if_icmp .ge 12, 3) := by decide +kernel
theorem dX8_byteOf_19 : decode cX8_byteOf 19 = .ok (.aload_n 0, 1) := by decide +kernel
theorem dX8_byteOf_20 : decode cX8_byteOf 20 = .ok (.getfield 34, 3) := by decide +kernel
theorem dX8_byteOf_23 : decode cX8_byteOf 23 = .ok (.iload_n 1, 1) := by decide +kernel
theorem dX8_byteOf_24 : decode cX8_byteOf 24 = .ok (.iaload, 1) := by decide +kernel
theorem dX8_byteOf_25 : decode cX8_byteOf 25 = .ok (.goto 4, 3) := by decide +kernel
theorem dX8_byteOf_28 : decode cX8_byteOf 28 = .ok (.iconst (-1), 1) := by decide +kernel
theorem dX8_byteOf_29 : decode cX8_byteOf 29 = .ok (.ireturn, 1) := by decide +kernel
theorem dJ9_floorMod_7cf53_0 : decode cJ9_floorMod_7cf53 0 = .ok (.iload_n 0, 1) := by decide +kernel
theorem dJ9_floorMod_7cf53_1 : decode cJ9_floorMod_7cf53 1 = .ok (.iload_n 1, 1) := by decide +kernel
theorem dJ9_floorMod_7cf53_2 : decode cJ9_floorMod_7cf53 2 = .ok (.irem, 1) := by decide +kernel
theorem dJ9_floorMod_7cf53_3 : decode cJ9_floorMod_7cf53 3 = .ok (.istore_n 2, 1) := by decide +kernel
theorem dJ9_floorMod_7cf53_4 : decode cJ9_floorMod_7cf53 4 = .ok (.iload_n 0, 1) := by decide +kernel
theorem dJ9_floorMod_7cf53_5 : decode cJ9_floorMod_7cf53 5 = .ok (.iload_n 1, 1) := by decide +kernel
theorem dJ9_floorMod_7cf53_6 : decode cJ9_floorMod_7cf53 6 = .ok (.ixor, 1) := by decide +kernel
theorem dJ9_floorMod_7cf53_7 : decode cJ9_floorMod_7cf53 7 = .ok (.ifCond .ge 11, 3) := by decide +kernel
theorem dJ9_floorMod_7cf53_10 : decode cJ9_floorMod_7cf53 10 = .ok (.iload_n 2, 1) := by decide +kernel
theorem dJ9_floorMod_7cf53_11 : decode cJ9_floorMod_7cf53 11 = .ok (.ifCond .eq 7, 3) := by decide +kernel
theorem dJ9_floorMod_7cf53_14 : decode cJ9_floorMod_7cf53 14 = .ok (.iload_n 2, 1) := by decide +kernel
theorem dJ9_floorMod_7cf53_15 : decode cJ9_floorMod_7cf53 15 = .ok (.iload_n 1, 1) := by decide +kernel
theorem dJ9_floorMod_7cf53_16 : decode cJ9_floorMod_7cf53 16 = .ok (.iadd, 1) := by decide +kernel
theorem dJ9_floorMod_7cf53_17 : decode cJ9_floorMod_7cf53 17 = .ok (.ireturn, 1) := by decide +kernel
theorem dJ9_floorMod_7cf53_18 : decode cJ9_floorMod_7cf53 18 = .ok (.iload_n 2, 1) := by decide +kernel
theorem dJ9_floorMod_7cf53_19 : decode cJ9_floorMod_7cf53 19 = .ok (.ireturn, 1) := by decide +kernel
theorem dJ9_max_7cf53_0 : decode cJ9_max_7cf53 0 = .ok (.iload_n 0, 1) := by decide +kernel
theorem dJ9_max_7cf53_1 : decode cJ9_max_7cf53 1 = .ok (.iload_n 1, 1) := by decide +kernel
theorem dJ9_max_7cf53_2 : decode cJ9_max_7cf53 2 = .ok (.if_icmp .lt 7, 3) := by decide +kernel
theorem dJ9_max_7cf53_5 : decode cJ9_max_7cf53 5 = .ok (.iload_n 0, 1) := by decide +kernel
theorem dJ9_max_7cf53_6 : decode cJ9_max_7cf53 6 = .ok (.goto 4, 3) := by decide +kernel
theorem dJ9_max_7cf53_9 : decode cJ9_max_7cf53 9 = .ok (.iload_n 1, 1) := by decide +kernel
theorem dJ9_max_7cf53_10 : decode cJ9_max_7cf53 10 = .ok (.ireturn, 1) := by decide +kernel
theorem dJ9_min_7cf53_0 : decode cJ9_min_7cf53 0 = .ok (.iload_n 0, 1) := by decide +kernel
theorem dJ9_min_7cf53_1 : decode cJ9_min_7cf53 1 = .ok (.iload_n 1, 1) := by decide +kernel
theorem dJ9_min_7cf53_2 : decode cJ9_min_7cf53 2 = .ok (.if_icmp .gt 7, 3) := by decide +kernel
theorem dJ9_min_7cf53_5 : decode cJ9_min_7cf53 5 = .ok (.iload_n 0, 1) := by decide +kernel
theorem dJ9_min_7cf53_6 : decode cJ9_min_7cf53 6 = .ok (.goto 4, 3) := by decide +kernel
theorem dJ9_min_7cf53_9 : decode cJ9_min_7cf53 9 = .ok (.iload_n 1, 1) := by decide +kernel
theorem dJ9_min_7cf53_10 : decode cJ9_min_7cf53 10 = .ok (.ireturn, 1) := by decide +kernel
theorem dJ7_rangeCheck_23922_0 : decode cJ7_rangeCheck_23922 0 = .ok (.iload_n 1, 1) := by decide +kernel
theorem dJ7_rangeCheck_23922_1 : decode cJ7_rangeCheck_23922 1 = .ok (.iload_n 2, 1) := by decide +kernel
theorem dJ7_rangeCheck_23922_2 : decode cJ7_rangeCheck_23922 2 = .ok (.if_icmp .le 44, 3) := by decide +kernel
theorem dJ7_rangeCheck_23922_5 : decode cJ7_rangeCheck_23922 5 = .ok (.new 43, 3) := by decide +kernel
theorem dJ7_rangeCheck_23922_8 : decode cJ7_rangeCheck_23922 8 = .ok (.dup, 1) := by decide +kernel
theorem dJ7_rangeCheck_23922_9 : decode cJ7_rangeCheck_23922 9 = .ok (.new 45, 3) := by decide +kernel
theorem dJ7_rangeCheck_23922_12 : decode cJ7_rangeCheck_23922 12 = .ok (.dup, 1) := by decide +kernel
theorem dJ7_rangeCheck_23922_13 : decode cJ7_rangeCheck_23922 13 = .ok (.invokespecial 47, 3) := by decide +kernel
theorem dJ7_rangeCheck_23922_16 : decode cJ7_rangeCheck_23922 16 = .ok (.ldc 48, 2) := by decide +kernel
theorem dJ7_rangeCheck_23922_18 : decode cJ7_rangeCheck_23922 18 = .ok (.invokevirtual 50, 3) := by decide +kernel
theorem dJ7_rangeCheck_23922_21 : decode cJ7_rangeCheck_23922 21 = .ok (.iload_n 1, 1) := by decide +kernel
theorem dJ7_rangeCheck_23922_22 : decode cJ7_rangeCheck_23922 22 = .ok (.invokevirtual 54, 3) := by decide +kernel
theorem dJ7_rangeCheck_23922_25 : decode cJ7_rangeCheck_23922 25 = .ok (.ldc 57, 2) := by decide +kernel
theorem dJ7_rangeCheck_23922_27 : decode cJ7_rangeCheck_23922 27 = .ok (.invokevirtual 50, 3) := by decide +kernel
theorem dJ7_rangeCheck_23922_30 : decode cJ7_rangeCheck_23922 30 = .ok (.iload_n 2, 1) := by decide +kernel
theorem dJ7_rangeCheck_23922_31 : decode cJ7_rangeCheck_23922 31 = .ok (.invokevirtual 54, 3) := by decide +kernel
theorem dJ7_rangeCheck_23922_34 : decode cJ7_rangeCheck_23922 34 = .ok (.ldc 59, 2) := by decide +kernel
theorem dJ7_rangeCheck_23922_36 : decode cJ7_rangeCheck_23922 36 = .ok (.invokevirtual 50, 3) := by decide +kernel
theorem dJ7_rangeCheck_23922_39 : decode cJ7_rangeCheck_23922 39 = .ok (.invokevirtual 61, 3) := by decide +kernel
theorem dJ7_rangeCheck_23922_42 : decode cJ7_rangeCheck_23922 42 = .ok (.invokespecial 65, 3) := by decide +kernel
theorem dJ7_rangeCheck_23922_45 : decode cJ7_rangeCheck_23922 45 = .ok (.athrow, 1) := by decide +kernel
theorem dJ7_rangeCheck_23922_46 : decode cJ7_rangeCheck_23922 46 = .ok (.iload_n 1, 1) := by decide +kernel
theorem dJ7_rangeCheck_23922_47 : decode cJ7_rangeCheck_23922 47 = .ok (.ifCond .ge 12, 3) := by decide +kernel
theorem dJ7_rangeCheck_23922_50 : decode cJ7_rangeCheck_23922 50 = .ok (.new 68, 3) := by decide +kernel
theorem dJ7_rangeCheck_23922_53 : decode cJ7_rangeCheck_23922 53 = .ok (.dup, 1) := by decide +kernel
theorem dJ7_rangeCheck_23922_54 : decode cJ7_rangeCheck_23922 54 = .ok (.iload_n 1, 1) := by decide +kernel
theorem dJ7_rangeCheck_23922_55 : decode cJ7_rangeCheck_23922 55 = .ok (.invokespecial 70, 3) := by decide +kernel
theorem dJ7_rangeCheck_23922_58 : decode cJ7_rangeCheck_23922 58 = .ok (.athrow, 1) := by decide +kernel
theorem dJ7_rangeCheck_23922_59 : decode cJ7_rangeCheck_23922 59 = .ok (.iload_n 2, 1) := by decide +kernel
theorem dJ7_rangeCheck_23922_60 : decode cJ7_rangeCheck_23922 60 = .ok (.iload_n 0, 1) := by decide +kernel
theorem dJ7_rangeCheck_23922_61 : decode cJ7_rangeCheck_23922 61 = .ok (.if_icmp .le 12, 3) := by decide +kernel
theorem dJ7_rangeCheck_23922_64 : decode cJ7_rangeCheck_23922 64 = .ok (.new 68, 3) := by decide +kernel
theorem dJ7_rangeCheck_23922_67 : decode cJ7_rangeCheck_23922 67 = .ok (.dup, 1) := by decide +kernel
theorem dJ7_rangeCheck_23922_68 : decode cJ7_rangeCheck_23922 68 = .ok (.iload_n 2, 1) := by decide +kernel
theorem dJ7_rangeCheck_23922_69 : decode cJ7_rangeCheck_23922 69 = .ok (.invokespecial 70, 3) := by decide +kernel
theorem dJ7_rangeCheck_23922_72 : decode cJ7_rangeCheck_23922 72 = .ok (.athrow, 1) := by decide +kernel
theorem dJ7_rangeCheck_23922_73 : decode cJ7_rangeCheck_23922 73 = .ok (.return_, 1) := by decide +kernel
theorem dJ7_fill_53178_0 : decode cJ7_fill_53178 0 = .ok (.iconst 0, 1) := by decide +kernel
theorem dJ7_fill_53178_1 : decode cJ7_fill_53178 1 = .ok (.istore_n 2, 1) := by decide +kernel
theorem dJ7_fill_53178_2 : decode cJ7_fill_53178 2 = .ok (.aload_n 0, 1) := by decide +kernel
theorem dJ7_fill_53178_3 : decode cJ7_fill_53178 3 = .ok (.arraylength, 1) := by decide +kernel
theorem dJ7_fill_53178_4 : decode cJ7_fill_53178 4 = .ok (.istore_n 3, 1) := by decide +kernel
theorem dJ7_fill_53178_5 : decode cJ7_fill_53178 5 = .ok (.iload_n 2, 1) := by decide +kernel
theorem dJ7_fill_53178_6 : decode cJ7_fill_53178 6 = .ok (.iload_n 3, 1) := by decide +kernel
theorem dJ7_fill_53178_7 : decode cJ7_fill_53178 7 = .ok (.if_icmp .ge 13, 3) := by decide +kernel
theorem dJ7_fill_53178_10 : decode cJ7_fill_53178 10 = .ok (.aload_n 0, 1) := by decide +kernel
theorem dJ7_fill_53178_11 : decode cJ7_fill_53178 11 = .ok (.iload_n 2, 1) := by decide +kernel
theorem dJ7_fill_53178_12 : decode cJ7_fill_53178 12 = .ok (.iload_n 1, 1) := by decide +kernel
theorem dJ7_fill_53178_13 : decode cJ7_fill_53178 13 = .ok (.iastore, 1) := by decide +kernel
theorem dJ7_fill_53178_14 : decode cJ7_fill_53178 14 = .ok (.iinc 2 1, 3) := by decide +kernel
theorem dJ7_fill_53178_17 : decode cJ7_fill_53178 17 = .ok (.goto (-12), 3) := by decide +kernel
theorem dJ7_fill_53178_20 : decode cJ7_fill_53178 20 = .ok (.return_, 1) := by decide +kernel
set_option maxRecDepth 20000 in
theorem ggJ7_fill_fda19_J7_rangeCheck_23922 : GoodIn wsJ7_fill_fda19 wsJ7_rangeCheck_23922 := goodIn_r _ [4] (by decide +kernel) (by decide +kernel)
set_option maxRecDepth 20000 in
theorem gJ7_fill_fda19_J7_rangeCheck_23922 : GoodIn wsJ7_fill_fda19 (va_wsS RJ7 13 yJ7_rangeCheck_23922 wsJ7_rangeCheck_23922) := goodIn_app (goodIn_of _ (by decide +kernel)) ggJ7_fill_fda19_J7_rangeCheck_23922
theorem dJ7_fill_fda19_0 : decode cJ7_fill_fda19 0 = .ok (.aload_n 0, 1) := by decide +kernel
theorem dJ7_fill_fda19_1 : decode cJ7_fill_fda19 1 = .ok (.arraylength, 1) := by decide +kernel
theorem dJ7_fill_fda19_2 : decode cJ7_fill_fda19 2 = .ok (.iload_n 1, 1) := by decide +kernel
theorem dJ7_fill_fda19_3 : decode cJ7_fill_fda19 3 = .ok (.iload_n 2, 1) := by decide +kernel
theorem dJ7_fill_fda19_4 : decode cJ7_fill_fda19 4 = .ok (.invokestatic 13, 3) := by decide +kernel
theorem dJ7_fill_fda19_7 : decode cJ7_fill_fda19 7 = .ok (.iload_n 1, 1) := by decide +kernel
theorem dJ7_fill_fda19_8 : decode cJ7_fill_fda19 8 = .ok (.istore 4, 2) := by decide +kernel
theorem dJ7_fill_fda19_10 : decode cJ7_fill_fda19 10 = .ok (.iload 4, 2) := by decide +kernel
theorem dJ7_fill_fda19_12 : decode cJ7_fill_fda19 12 = .ok (.iload_n 2, 1) := by decide +kernel
theorem dJ7_fill_fda19_13 : decode cJ7_fill_fda19 13 = .ok (.if_icmp .ge 14, 3) := by decide +kernel
theorem dJ7_fill_fda19_16 : decode cJ7_fill_fda19 16 = .ok (.aload_n 0, 1) := by decide +kernel
theorem dJ7_fill_fda19_17 : decode cJ7_fill_fda19 17 = .ok (.iload 4, 2) := by decide +kernel
theorem dJ7_fill_fda19_19 : decode cJ7_fill_fda19 19 = .ok (.iload_n 3, 1) := by decide +kernel
theorem dJ7_fill_fda19_20 : decode cJ7_fill_fda19 20 = .ok (.iastore, 1) := by decide +kernel
theorem dJ7_fill_fda19_21 : decode cJ7_fill_fda19 21 = .ok (.iinc 4 1, 3) := by decide +kernel
theorem dJ7_fill_fda19_24 : decode cJ7_fill_fda19 24 = .ok (.goto (-14), 3) := by decide +kernel
theorem dJ7_fill_fda19_27 : decode cJ7_fill_fda19 27 = .ok (.return_, 1) := by decide +kernel
theorem dL_cell_0 : decode cL_cell 0 = .ok (.iload_n 1, 1) := by decide +kernel
theorem dL_cell_1 : decode cL_cell 1 = .ok (.aload_n 0, 1) := by decide +kernel
theorem dL_cell_2 : decode cL_cell 2 = .ok (.arraylength, 1) := by decide +kernel
theorem dL_cell_3 : decode cL_cell 3 = .ok (.if_icmp .ge 9, 3) := by decide +kernel
theorem dL_cell_6 : decode cL_cell 6 = .ok (.aload_n 0, 1) := by decide +kernel
theorem dL_cell_7 : decode cL_cell 7 = .ok (.iload_n 1, 1) := by decide +kernel
theorem dL_cell_8 : decode cL_cell 8 = .ok (.iaload, 1) := by decide +kernel
theorem dL_cell_9 : decode cL_cell 9 = .ok (.goto 4, 3) := by decide +kernel
theorem dL_cell_12 : decode cL_cell 12 = .ok (.iconst 0, 1) := by decide +kernel
theorem dL_cell_13 : decode cL_cell 13 = .ok (.ireturn, 1) := by decide +kernel
set_option maxRecDepth 20000 in
theorem ggL_law_L_cell : GoodIn wsL_law wsL_cell := goodIn_r _ [9] (by decide +kernel) (by decide +kernel)
set_option maxRecDepth 20000 in
theorem gL_law_L_cell : GoodIn wsL_law (va_wsS RL 9 yL_cell wsL_cell) := goodIn_app (goodIn_of _ (by decide +kernel)) ggL_law_L_cell
set_option maxRecDepth 20000 in
theorem ggL_law_X7_init : GoodIn wsL_law wsX7_init := goodIn_r _ [12, 13, 14, 15, 16, 17, 18, 19, 20, 21, 22, 23, 24, 25, 26, 27, 28, 29, 30, 31, 32, 33, 34, 35, 36, 37, 38, 39, 40, 41, 42, 43, 44, 45, 46, 47, 48, 49, 50, 51, 52, 53, 54, 55, 56, 57, 58, 59, 60, 61, 62, 63, 64, 65, 66, 67, 68, 69, 70, 71, 72, 73, 74, 75, 76, 77, 78, 79, 80, 81, 82, 83, 84, 85, 86, 87, 88, 89, 90, 91, 92, 93, 94, 95, 96, 97, 98, 99, 100, 101, 102, 103, 104, 105, 106, 107, 108, 109, 110, 111, 112, 113, 114, 115, 116, 117, 118, 119, 521, 522, 523, 524, 525, 526, 527, 528, 529, 530, 480, 481, 482, 531, 532, 533, 534, 535, 536, 537, 538, 539, 540, 541, 542, 543, 544, 545, 546, 547, 548, 549, 550, 551, 552, 553, 554, 555, 556, 557, 558, 559, 560] (by decide +kernel) (by decide +kernel)
set_option maxRecDepth 20000 in
theorem gL_law_X7_init : GoodIn wsL_law (wsX7_init) := ggL_law_X7_init
set_option maxRecDepth 20000 in
theorem ggL_law_X8_init : GoodIn wsL_law wsX8_init := goodIn_r _ [122, 123, 14, 15, 36, 124, 125, 126, 127, 128, 129, 130, 131, 132, 133, 134, 135, 483, 484, 485, 486, 487, 488, 489, 490, 491, 492, 493, 494, 495, 496, 497, 498, 499, 500, 501, 502, 503, 504, 505, 506, 507, 508, 509, 510, 511, 512, 513, 514, 515, 516, 517, 518, 519, 520] (by decide +kernel) (by decide +kernel)
set_option maxRecDepth 20000 in
theorem gL_law_X8_init : GoodIn wsL_law (wsX8_init) := ggL_law_X8_init
set_option maxRecDepth 20000 in
theorem ggL_law_X7_data : GoodIn wsL_law wsX7_data := goodIn_r _ [139, 19, 140, 141, 2, 142, 143, 144, 145, 51, 146, 64, 63, 480, 481, 482, 521, 522, 523, 524, 525, 526, 527, 528, 529, 530, 543, 544, 545, 546, 547, 548] (by decide +kernel) (by decide +kernel)
set_option maxRecDepth 20000 in
theorem gL_law_X7_data : GoodIn wsL_law (wsV RL 21 RX7 yX7_data wsX7_data) := goodIn_app (goodIn_of _ (by decide +kernel)) ggL_law_X7_data
set_option maxRecDepth 20000 in
theorem ggL_law_X8_data : GoodIn wsL_law wsX8_data := goodIn_r _ [150, 151, 124, 152, 153, 5, 154, 483, 484, 485, 486, 487, 488, 489, 490, 491, 492, 493, 494, 495, 496, 497, 498, 499, 500, 501, 502, 503, 504, 505, 506, 507, 508, 509, 510, 511, 512, 513, 514, 515, 516, 517, 518, 519, 520] (by decide +kernel) (by decide +kernel)
set_option maxRecDepth 20000 in
theorem gL_law_X8_data : GoodIn wsL_law (wsV RL 25 RX8 yX8_data wsX8_data) := goodIn_app (goodIn_of _ (by decide +kernel)) ggL_law_X8_data
set_option maxRecDepth 20000 in
theorem ggL_law_X7_send : GoodIn wsL_law wsX7_send := goodIn_r _ [158, 19, 140, 141, 2, 142, 159, 160, 161, 51, 162, 68, 66, 67, 64, 163, 164, 165, 166, 69, 63, 167, 168, 169, 170, 171, 172, 173, 174, 175, 176, 177, 178, 78, 179, 180, 181, 182, 183, 184, 185, 480, 481, 482, 521, 522, 523, 524, 525, 526, 527, 528, 529, 530, 543, 544, 545, 546, 547, 548] (by decide +kernel) (by decide +kernel)
set_option maxRecDepth 20000 in
theorem gL_law_X7_send : GoodIn wsL_law (wsV RL 26 RX7 yX7_send wsX7_send) := goodIn_app (goodIn_of _ (by decide +kernel)) ggL_law_X7_send
set_option maxRecDepth 20000 in
theorem ggL_law_X8_send : GoodIn wsL_law wsX8_send := goodIn_r _ [189, 190, 125, 151, 124, 152, 153, 5, 154, 483, 484, 485, 486, 487, 488, 489, 490, 491, 492, 493, 494, 495, 496, 497, 498, 499, 500, 501, 502, 503, 504, 505, 506, 507, 508, 509, 510, 511, 512, 513, 514, 515, 516, 517, 518, 519, 520] (by decide +kernel) (by decide +kernel)
set_option maxRecDepth 20000 in
theorem gL_law_X8_send : GoodIn wsL_law (wsV RL 29 RX8 yX8_send wsX8_send) := goodIn_app (goodIn_of _ (by decide +kernel)) ggL_law_X8_send
set_option maxRecDepth 20000 in
theorem ggL_law_X7_hit : GoodIn wsL_law wsX7_hit := goodIn_r _ [194, 23, 195, 196, 197, 22, 198, 74, 75, 480, 481, 482, 531, 532] (by decide +kernel) (by decide +kernel)
set_option maxRecDepth 20000 in
theorem gL_law_X7_hit : GoodIn wsL_law (wsV RL 30 RX7 yX7_hit wsX7_hit) := goodIn_app (goodIn_of _ (by decide +kernel)) ggL_law_X7_hit
set_option maxRecDepth 20000 in
theorem ggL_law_X8_hit : GoodIn wsL_law wsX8_hit := goodIn_r _ [202, 128, 203, 129, 483, 484, 485, 486, 487, 488, 489, 490, 491, 492, 493, 494, 495, 496, 497, 498, 499, 500, 501, 502, 503, 504, 505, 506, 507, 508, 509, 510, 511, 512, 513, 514, 515, 516, 517, 518, 519, 520] (by decide +kernel) (by decide +kernel)
set_option maxRecDepth 20000 in
theorem gL_law_X8_hit : GoodIn wsL_law (wsV RL 34 RX8 yX8_hit wsX8_hit) := goodIn_app (goodIn_of _ (by decide +kernel)) ggL_law_X8_hit
set_option maxRecDepth 20000 in
theorem ggL_law_X7_run : GoodIn wsL_law wsX7_run := goodIn_r _ [207, 19, 27, 23, 208, 209, 210, 18, 211, 43, 42, 48, 44, 212, 213, 214, 215, 40, 41, 52, 39, 37, 216, 217, 218, 51, 219, 66, 67, 68, 220, 221, 222, 223, 38, 224, 225, 226, 227, 171, 2, 172, 173, 174, 175, 176, 228, 229, 230, 47, 231, 58, 232, 233, 234, 235, 236, 237, 238, 239, 240, 241, 242, 243, 244, 245, 246, 247, 248, 249, 22, 250, 74, 75, 251, 252, 253, 26, 254, 91, 90, 89, 99, 255, 256, 257, 258, 85, 92, 94, 93, 259, 260, 261, 262, 263, 264, 95, 265, 266, 267, 268, 269, 270, 271, 272, 273, 274, 275, 276, 277, 278, 279, 280, 281, 282, 283, 284, 98, 285, 113, 114, 115, 116, 117, 118, 286, 287, 288, 289, 290, 291, 292, 293, 294, 295, 296, 297, 112, 119, 298, 299, 300, 301, 183, 184, 185, 302, 303, 304, 305, 306, 307, 308, 309, 310, 311, 312, 88, 313, 104, 106, 314, 107, 105, 315, 168, 169, 170, 480, 481, 482, 521, 522, 523, 524, 525, 526, 527, 528, 529, 530, 543, 544, 545, 546, 547, 548, 542, 531, 532, 533, 534, 535, 536, 537, 538, 539, 540, 541, 553, 554, 555, 556, 557, 558, 559, 560, 549, 550, 551, 552] (by decide +kernel) (by decide +kernel)
set_option maxRecDepth 20000 in
theorem gL_law_X7_run : GoodIn wsL_law (wsV RL 35 RX7 yX7_run wsX7_run) := goodIn_app (goodIn_of _ (by decide +kernel)) ggL_law_X7_run
set_option maxRecDepth 20000 in
theorem ggL_law_X8_run : GoodIn wsL_law wsX8_run := goodIn_r _ [319, 320, 321, 322, 323, 5, 324, 203, 133, 325, 128, 129, 326, 327, 328, 329, 330, 331, 332, 333, 334, 335, 190, 126, 336, 337, 338, 339, 125, 340, 127, 134, 341, 342, 343, 344, 345, 346, 347, 348, 349, 350, 351, 352, 353, 354, 355, 356, 357, 358, 359, 360, 361, 362, 363, 364, 365, 366, 367, 368, 369, 370, 371, 372, 373, 131, 374, 375, 376, 377, 378, 379, 380, 381, 382, 383, 384, 385, 386, 387, 388, 389, 130, 390, 391, 392, 393, 394, 395, 396, 135, 397, 398, 399, 132, 400, 401, 402, 403, 483, 484, 485, 486, 487, 488, 489, 490, 491, 492, 493, 494, 495, 496, 497, 498, 499, 500, 501, 502, 503, 504, 505, 506, 507, 508, 509, 510, 511, 512, 513, 514, 515, 516, 517, 518, 519, 520] (by decide +kernel) (by decide +kernel)
set_option maxRecDepth 20000 in
theorem gL_law_X8_run : GoodIn wsL_law (wsV RL 38 RX8 yX8_run wsX8_run) := goodIn_app (goodIn_of _ (by decide +kernel)) ggL_law_X8_run
set_option maxRecDepth 20000 in
theorem ggL_law_X7_waiting : GoodIn wsL_law wsX7_waiting := goodIn_r _ [407, 19, 480, 481, 482, 521, 522, 523, 524, 525, 526, 527, 528, 529, 530, 543, 544, 545, 546, 547, 548] (by decide +kernel) (by decide +kernel)
set_option maxRecDepth 20000 in
theorem gL_law_X7_waiting : GoodIn wsL_law (wsV RL 39 RX7 yX7_waiting wsX7_waiting) := goodIn_app (goodIn_of _ (by decide +kernel)) ggL_law_X7_waiting
set_option maxRecDepth 20000 in
theorem ggL_law_X8_waiting : GoodIn wsL_law wsX8_waiting := goodIn_r _ [411, 190, 483, 484, 485, 486, 487, 488, 489, 490, 491, 492, 493, 494, 495, 496, 497, 498, 499, 500, 501, 502, 503, 504, 505, 506, 507, 508, 509, 510, 511, 512, 513, 514, 515, 516, 517, 518, 519, 520] (by decide +kernel) (by decide +kernel)
set_option maxRecDepth 20000 in
theorem gL_law_X8_waiting : GoodIn wsL_law (wsV RL 43 RX8 yX8_waiting wsX8_waiting) := goodIn_app (goodIn_of _ (by decide +kernel)) ggL_law_X8_waiting
set_option maxRecDepth 20000 in
theorem ggL_law_X7_sending : GoodIn wsL_law wsX7_sending := goodIn_r _ [415, 19, 480, 481, 482, 521, 522, 523, 524, 525, 526, 527, 528, 529, 530] (by decide +kernel) (by decide +kernel)
set_option maxRecDepth 20000 in
theorem gL_law_X7_sending : GoodIn wsL_law (wsV RL 44 RX7 yX7_sending wsX7_sending) := goodIn_app (goodIn_of _ (by decide +kernel)) ggL_law_X7_sending
set_option maxRecDepth 20000 in
theorem ggL_law_X8_sending : GoodIn wsL_law wsX8_sending := goodIn_r _ [419, 334, 332, 333, 483, 484, 485, 486, 487, 488, 489, 490, 491, 492, 493, 494, 495, 496, 497, 498, 499, 500, 501, 502, 503, 504, 505, 506, 507, 508, 509, 510, 511, 512, 513, 514, 515, 516, 517, 518, 519, 520] (by decide +kernel) (by decide +kernel)
set_option maxRecDepth 20000 in
theorem gL_law_X8_sending : GoodIn wsL_law (wsV RL 48 RX8 yX8_sending wsX8_sending) := goodIn_app (goodIn_of _ (by decide +kernel)) ggL_law_X8_sending
set_option maxRecDepth 20000 in
theorem ggL_law_X7_level : GoodIn wsL_law wsX7_level := goodIn_r _ [423, 19, 243, 244, 245, 18, 246, 44, 480, 481, 482, 521, 522, 523, 524, 525, 526, 527, 528, 529, 530] (by decide +kernel) (by decide +kernel)
set_option maxRecDepth 20000 in
theorem gL_law_X7_level : GoodIn wsL_law (wsV RL 49 RX7 yX7_level wsX7_level) := goodIn_app (goodIn_of _ (by decide +kernel)) ggL_law_X7_level
set_option maxRecDepth 20000 in
theorem ggL_law_X8_level : GoodIn wsL_law wsX8_level := goodIn_r _ [427, 325, 356, 357, 5, 358, 483, 484, 485, 486, 487, 488, 489, 490, 491, 492, 493, 494, 495, 496, 497, 498, 499, 500, 501, 502, 503, 504, 505, 506, 507, 508, 509, 510, 511, 512, 513, 514, 515, 516, 517, 518, 519, 520] (by decide +kernel) (by decide +kernel)
set_option maxRecDepth 20000 in
theorem gL_law_X8_level : GoodIn wsL_law (wsV RL 52 RX8 yX8_level wsX8_level) := goodIn_app (goodIn_of _ (by decide +kernel)) ggL_law_X8_level
set_option maxRecDepth 20000 in
theorem ggL_law_X7_register : GoodIn wsL_law wsX7_register := goodIn_r _ [431, 19, 480, 481, 482, 521, 522, 523, 524, 525, 526, 527, 528, 529, 530, 542] (by decide +kernel) (by decide +kernel)
set_option maxRecDepth 20000 in
theorem gL_law_X7_register : GoodIn wsL_law (wsV RL 53 RX7 yX7_register wsX7_register) := goodIn_app (goodIn_of _ (by decide +kernel)) ggL_law_X7_register
set_option maxRecDepth 20000 in
theorem ggL_law_X8_register : GoodIn wsL_law wsX8_register := goodIn_r _ [435, 133, 483, 484, 485, 486, 487, 488, 489, 490, 491, 492, 493, 494, 495, 496, 497, 498, 499, 500, 501, 502, 503, 504, 505, 506, 507, 508, 509, 510, 511, 512, 513, 514, 515, 516, 517, 518, 519, 520] (by decide +kernel) (by decide +kernel)
set_option maxRecDepth 20000 in
theorem gL_law_X8_register : GoodIn wsL_law (wsV RL 56 RX8 yX8_register wsX8_register) := goodIn_app (goodIn_of _ (by decide +kernel)) ggL_law_X8_register
set_option maxRecDepth 20000 in
theorem ggL_law_X7_state : GoodIn wsL_law wsX7_state := goodIn_r _ [439, 27, 480, 481, 482, 533, 534, 535, 536, 537, 538, 539, 540, 541] (by decide +kernel) (by decide +kernel)
set_option maxRecDepth 20000 in
theorem gL_law_X7_state : GoodIn wsL_law (wsV RL 57 RX7 yX7_state wsX7_state) := goodIn_app (goodIn_of _ (by decide +kernel)) ggL_law_X7_state
set_option maxRecDepth 20000 in
theorem ggL_law_X8_state : GoodIn wsL_law wsX8_state := goodIn_r _ [443, 327, 366, 483, 484, 485, 486, 487, 488, 489, 490, 491, 492, 493, 494, 495, 496, 497, 498, 499, 500, 501, 502, 503, 504, 505, 506, 507, 508, 509, 510, 511, 512, 513, 514, 515, 516, 517, 518, 519, 520] (by decide +kernel) (by decide +kernel)
set_option maxRecDepth 20000 in
theorem gL_law_X8_state : GoodIn wsL_law (wsV RL 60 RX8 yX8_state wsX8_state) := goodIn_app (goodIn_of _ (by decide +kernel)) ggL_law_X8_state
set_option maxRecDepth 20000 in
theorem ggL_law_X7_count : GoodIn wsL_law wsX7_count := goodIn_r _ [447, 27, 480, 481, 482, 533, 534, 535, 536, 537, 538, 539, 540, 541, 549, 550, 551, 552] (by decide +kernel) (by decide +kernel)
set_option maxRecDepth 20000 in
theorem gL_law_X7_count : GoodIn wsL_law (wsV RL 61 RX7 yX7_count wsX7_count) := goodIn_app (goodIn_of _ (by decide +kernel)) ggL_law_X7_count
set_option maxRecDepth 20000 in
theorem ggL_law_X8_count : GoodIn wsL_law wsX8_count := goodIn_r _ [451, 131, 483, 484, 485, 486, 487, 488, 489, 490, 491, 492, 493, 494, 495, 496, 497, 498, 499, 500, 501, 502, 503, 504, 505, 506, 507, 508, 509, 510, 511, 512, 513, 514, 515, 516, 517, 518, 519, 520] (by decide +kernel) (by decide +kernel)
set_option maxRecDepth 20000 in
theorem gL_law_X8_count : GoodIn wsL_law (wsV RL 64 RX8 yX8_count wsX8_count) := goodIn_app (goodIn_of _ (by decide +kernel)) ggL_law_X8_count
set_option maxRecDepth 20000 in
theorem ggL_law_X7_source : GoodIn wsL_law wsX7_source := goodIn_r _ [455, 27, 480, 481, 482, 533, 534, 535, 536, 537, 538, 539, 540, 541, 549, 550, 551, 552] (by decide +kernel) (by decide +kernel)
set_option maxRecDepth 20000 in
theorem gL_law_X7_source : GoodIn wsL_law (wsV RL 65 RX7 yX7_source wsX7_source) := goodIn_app (goodIn_of _ (by decide +kernel)) ggL_law_X7_source
set_option maxRecDepth 20000 in
theorem ggL_law_X8_source : GoodIn wsL_law wsX8_source := goodIn_r _ [459, 397, 398, 483, 484, 485, 486, 487, 488, 489, 490, 491, 492, 493, 494, 495, 496, 497, 498, 499, 500, 501, 502, 503, 504, 505, 506, 507, 508, 509, 510, 511, 512, 513, 514, 515, 516, 517, 518, 519, 520] (by decide +kernel) (by decide +kernel)
set_option maxRecDepth 20000 in
theorem gL_law_X8_source : GoodIn wsL_law (wsV RL 68 RX8 yX8_source wsX8_source) := goodIn_app (goodIn_of _ (by decide +kernel)) ggL_law_X8_source
set_option maxRecDepth 20000 in
theorem ggL_law_X7_length : GoodIn wsL_law wsX7_length := goodIn_r _ [463, 27, 480, 481, 482, 533, 534, 535, 536, 537, 538, 539, 540, 541, 549, 550, 551, 552] (by decide +kernel) (by decide +kernel)
set_option maxRecDepth 20000 in
theorem gL_law_X7_length : GoodIn wsL_law (wsV RL 69 RX7 yX7_length wsX7_length) := goodIn_app (goodIn_of _ (by decide +kernel)) ggL_law_X7_length
set_option maxRecDepth 20000 in
theorem ggL_law_X8_length : GoodIn wsL_law wsX8_length := goodIn_r _ [467, 397, 399, 483, 484, 485, 486, 487, 488, 489, 490, 491, 492, 493, 494, 495, 496, 497, 498, 499, 500, 501, 502, 503, 504, 505, 506, 507, 508, 509, 510, 511, 512, 513, 514, 515, 516, 517, 518, 519, 520] (by decide +kernel) (by decide +kernel)
set_option maxRecDepth 20000 in
theorem gL_law_X8_length : GoodIn wsL_law (wsV RL 72 RX8 yX8_length wsX8_length) := goodIn_app (goodIn_of _ (by decide +kernel)) ggL_law_X8_length
set_option maxRecDepth 20000 in
theorem ggL_law_X7_byteOf : GoodIn wsL_law wsX7_byteOf := goodIn_r _ [471, 27, 472, 473, 474, 88, 475, 107, 105, 480, 481, 482, 533, 534, 535, 536, 537, 538, 539, 540, 541, 549, 550, 551, 552] (by decide +kernel) (by decide +kernel)
set_option maxRecDepth 20000 in
theorem gL_law_X7_byteOf : GoodIn wsL_law (wsV RL 73 RX7 yX7_byteOf wsX7_byteOf) := goodIn_app (goodIn_of _ (by decide +kernel)) ggL_law_X7_byteOf
set_option maxRecDepth 20000 in
theorem ggL_law_X8_byteOf : GoodIn wsL_law wsX8_byteOf := goodIn_r _ [479, 397, 399, 132, 483, 484, 485, 486, 487, 488, 489, 490, 491, 492, 493, 494, 495, 496, 497, 498, 499, 500, 501, 502, 503, 504, 505, 506, 507, 508, 509, 510, 511, 512, 513, 514, 515, 516, 517, 518, 519, 520] (by decide +kernel) (by decide +kernel)
set_option maxRecDepth 20000 in
theorem gL_law_X8_byteOf : GoodIn wsL_law (wsV RL 76 RX8 yX8_byteOf wsX8_byteOf) := goodIn_app (goodIn_of _ (by decide +kernel)) ggL_law_X8_byteOf
theorem dL_law_0 : decode cL_law 0 = .ok (.new 7, 3) := by decide +kernel
theorem dL_law_3 : decode cL_law 3 = .ok (.dup, 1) := by decide +kernel
theorem dL_law_4 : decode cL_law 4 = .ok (.aload_n 0, 1) := by decide +kernel
theorem dL_law_5 : decode cL_law 5 = .ok (.iconst 0, 1) := by decide +kernel
theorem dL_law_6 : decode cL_law 6 = .ok (.invokestatic 9, 3) := by decide +kernel
theorem dL_law_9 : decode cL_law 9 = .ok (.aload_n 0, 1) := by decide +kernel
theorem dL_law_10 : decode cL_law 10 = .ok (.iconst 1, 1) := by decide +kernel
theorem dL_law_11 : decode cL_law 11 = .ok (.invokestatic 9, 3) := by decide +kernel
theorem dL_law_14 : decode cL_law 14 = .ok (.aload_n 0, 1) := by decide +kernel
theorem dL_law_15 : decode cL_law 15 = .ok (.iconst 2, 1) := by decide +kernel
theorem dL_law_16 : decode cL_law 16 = .ok (.invokestatic 9, 3) := by decide +kernel
theorem dL_law_19 : decode cL_law 19 = .ok (.invokespecial 15, 3) := by decide +kernel
theorem dL_law_22 : decode cL_law 22 = .ok (.astore_n 1, 1) := by decide +kernel
theorem dL_law_23 : decode cL_law 23 = .ok (.new 18, 3) := by decide +kernel
theorem dL_law_26 : decode cL_law 26 = .ok (.dup, 1) := by decide +kernel
theorem dL_law_27 : decode cL_law 27 = .ok (.aload_n 0, 1) := by decide +kernel
theorem dL_law_28 : decode cL_law 28 = .ok (.iconst 0, 1) := by decide +kernel
theorem dL_law_29 : decode cL_law 29 = .ok (.invokestatic 9, 3) := by decide +kernel
theorem dL_law_32 : decode cL_law 32 = .ok (.aload_n 0, 1) := by decide +kernel
theorem dL_law_33 : decode cL_law 33 = .ok (.iconst 1, 1) := by decide +kernel
theorem dL_law_34 : decode cL_law 34 = .ok (.invokestatic 9, 3) := by decide +kernel
theorem dL_law_37 : decode cL_law 37 = .ok (.aload_n 0, 1) := by decide +kernel
theorem dL_law_38 : decode cL_law 38 = .ok (.iconst 2, 1) := by decide +kernel
theorem dL_law_39 : decode cL_law 39 = .ok (.invokestatic 9, 3) := by decide +kernel
theorem dL_law_42 : decode cL_law 42 = .ok (.invokespecial 20, 3) := by decide +kernel
theorem dL_law_45 : decode cL_law 45 = .ok (.astore_n 2, 1) := by decide +kernel
theorem dL_law_46 : decode cL_law 46 = .ok (.iconst 3, 1) := by decide +kernel
theorem dL_law_47 : decode cL_law 47 = .ok (.istore_n 3, 1) := by decide +kernel
theorem dL_law_48 : decode cL_law 48 = .ok (.iload_n 3, 1) := by decide +kernel
theorem dL_law_49 : decode cL_law 49 = .ok (.aload_n 0, 1) := by decide +kernel
theorem dL_law_50 : decode cL_law 50 = .ok (.arraylength, 1) := by decide +kernel
theorem dL_law_51 : decode cL_law 51 = .ok (.iconst 3, 1) := by decide +kernel
theorem dL_law_52 : decode cL_law 52 = .ok (.isub, 1) := by decide +kernel
theorem dL_law_53 : decode cL_law 53 = .ok (.if_icmp .gt 320, 3) := by decide +kernel
theorem dL_law_56 : decode cL_law 56 = .ok (.aload_n 0, 1) := by decide +kernel
theorem dL_law_57 : decode cL_law 57 = .ok (.iload_n 3, 1) := by decide +kernel
theorem dL_law_58 : decode cL_law 58 = .ok (.iaload, 1) := by decide +kernel
theorem dL_law_59 : decode cL_law 59 = .ok (.bipush 15, 2) := by decide +kernel
theorem dL_law_61 : decode cL_law 61 = .ok (.iand, 1) := by decide +kernel
theorem dL_law_62 : decode cL_law 62 = .ok (.tableswitch 305 0 12 #[66, 89, 112, 145, 168, 181, 194, 207, 220, 233, 256, 269, 282], 66) := by decide +kernel
theorem dL_law_128 : decode cL_law 128 = .ok (.aload_n 1, 1) := by decide +kernel
theorem dL_law_129 : decode cL_law 129 = .ok (.aload_n 0, 1) := by decide +kernel
theorem dL_law_130 : decode cL_law 130 = .ok (.iload_n 3, 1) := by decide +kernel
theorem dL_law_131 : decode cL_law 131 = .ok (.iconst 1, 1) := by decide +kernel
theorem dL_law_132 : decode cL_law 132 = .ok (.iadd, 1) := by decide +kernel
theorem dL_law_133 : decode cL_law 133 = .ok (.iaload, 1) := by decide +kernel
theorem dL_law_134 : decode cL_law 134 = .ok (.invokevirtual 21, 3) := by decide +kernel
theorem dL_law_137 : decode cL_law 137 = .ok (.aload_n 2, 1) := by decide +kernel
theorem dL_law_138 : decode cL_law 138 = .ok (.aload_n 0, 1) := by decide +kernel
theorem dL_law_139 : decode cL_law 139 = .ok (.iload_n 3, 1) := by decide +kernel
theorem dL_law_140 : decode cL_law 140 = .ok (.iconst 1, 1) := by decide +kernel
theorem dL_law_141 : decode cL_law 141 = .ok (.iadd, 1) := by decide +kernel
theorem dL_law_142 : decode cL_law 142 = .ok (.iaload, 1) := by decide +kernel
theorem dL_law_143 : decode cL_law 143 = .ok (.invokevirtual 25, 3) := by decide +kernel
theorem dL_law_146 : decode cL_law 146 = .ok (.if_icmp .eq 221, 3) := by decide +kernel
theorem dL_law_149 : decode cL_law 149 = .ok (.iconst 0, 1) := by decide +kernel
theorem dL_law_150 : decode cL_law 150 = .ok (.ireturn, 1) := by decide +kernel
theorem dL_law_151 : decode cL_law 151 = .ok (.aload_n 1, 1) := by decide +kernel
theorem dL_law_152 : decode cL_law 152 = .ok (.aload_n 0, 1) := by decide +kernel
theorem dL_law_153 : decode cL_law 153 = .ok (.iload_n 3, 1) := by decide +kernel
theorem dL_law_154 : decode cL_law 154 = .ok (.iconst 1, 1) := by decide +kernel
theorem dL_law_155 : decode cL_law 155 = .ok (.iadd, 1) := by decide +kernel
theorem dL_law_156 : decode cL_law 156 = .ok (.iaload, 1) := by decide +kernel
theorem dL_law_157 : decode cL_law 157 = .ok (.invokevirtual 26, 3) := by decide +kernel
theorem dL_law_160 : decode cL_law 160 = .ok (.aload_n 2, 1) := by decide +kernel
theorem dL_law_161 : decode cL_law 161 = .ok (.aload_n 0, 1) := by decide +kernel
theorem dL_law_162 : decode cL_law 162 = .ok (.iload_n 3, 1) := by decide +kernel
theorem dL_law_163 : decode cL_law 163 = .ok (.iconst 1, 1) := by decide +kernel
theorem dL_law_164 : decode cL_law 164 = .ok (.iadd, 1) := by decide +kernel
theorem dL_law_165 : decode cL_law 165 = .ok (.iaload, 1) := by decide +kernel
theorem dL_law_166 : decode cL_law 166 = .ok (.invokevirtual 29, 3) := by decide +kernel
theorem dL_law_169 : decode cL_law 169 = .ok (.if_icmp .eq 198, 3) := by decide +kernel
theorem dL_law_172 : decode cL_law 172 = .ok (.iconst 0, 1) := by decide +kernel
theorem dL_law_173 : decode cL_law 173 = .ok (.ireturn, 1) := by decide +kernel
theorem dL_law_174 : decode cL_law 174 = .ok (.aload_n 1, 1) := by decide +kernel
theorem dL_law_175 : decode cL_law 175 = .ok (.aload_n 0, 1) := by decide +kernel
theorem dL_law_176 : decode cL_law 176 = .ok (.iload_n 3, 1) := by decide +kernel
theorem dL_law_177 : decode cL_law 177 = .ok (.iconst 1, 1) := by decide +kernel
theorem dL_law_178 : decode cL_law 178 = .ok (.iadd, 1) := by decide +kernel
theorem dL_law_179 : decode cL_law 179 = .ok (.iaload, 1) := by decide +kernel
theorem dL_law_180 : decode cL_law 180 = .ok (.aload_n 0, 1) := by decide +kernel
theorem dL_law_181 : decode cL_law 181 = .ok (.iload_n 3, 1) := by decide +kernel
theorem dL_law_182 : decode cL_law 182 = .ok (.iconst 2, 1) := by decide +kernel
theorem dL_law_183 : decode cL_law 183 = .ok (.iadd, 1) := by decide +kernel
theorem dL_law_184 : decode cL_law 184 = .ok (.iaload, 1) := by decide +kernel
theorem dL_law_185 : decode cL_law 185 = .ok (.invokevirtual 30, 3) := by decide +kernel
theorem dL_law_188 : decode cL_law 188 = .ok (.aload_n 2, 1) := by decide +kernel
theorem dL_law_189 : decode cL_law 189 = .ok (.aload_n 0, 1) := by decide +kernel
theorem dL_law_190 : decode cL_law 190 = .ok (.iload_n 3, 1) := by decide +kernel
theorem dL_law_191 : decode cL_law 191 = .ok (.iconst 1, 1) := by decide +kernel
theorem dL_law_192 : decode cL_law 192 = .ok (.iadd, 1) := by decide +kernel
theorem dL_law_193 : decode cL_law 193 = .ok (.iaload, 1) := by decide +kernel
theorem dL_law_194 : decode cL_law 194 = .ok (.aload_n 0, 1) := by decide +kernel
theorem dL_law_195 : decode cL_law 195 = .ok (.iload_n 3, 1) := by decide +kernel
theorem dL_law_196 : decode cL_law 196 = .ok (.iconst 2, 1) := by decide +kernel
theorem dL_law_197 : decode cL_law 197 = .ok (.iadd, 1) := by decide +kernel
theorem dL_law_198 : decode cL_law 198 = .ok (.iaload, 1) := by decide +kernel
theorem dL_law_199 : decode cL_law 199 = .ok (.invokevirtual 34, 3) := by decide +kernel
theorem dL_law_202 : decode cL_law 202 = .ok (.if_icmp .eq 165, 3) := by decide +kernel
theorem dL_law_205 : decode cL_law 205 = .ok (.iconst 0, 1) := by decide +kernel
theorem dL_law_206 : decode cL_law 206 = .ok (.ireturn, 1) := by decide +kernel
theorem dL_law_207 : decode cL_law 207 = .ok (.aload_n 1, 1) := by decide +kernel
theorem dL_law_208 : decode cL_law 208 = .ok (.aload_n 0, 1) := by decide +kernel
theorem dL_law_209 : decode cL_law 209 = .ok (.iload_n 3, 1) := by decide +kernel
theorem dL_law_210 : decode cL_law 210 = .ok (.iconst 1, 1) := by decide +kernel
theorem dL_law_211 : decode cL_law 211 = .ok (.iadd, 1) := by decide +kernel
theorem dL_law_212 : decode cL_law 212 = .ok (.iaload, 1) := by decide +kernel
theorem dL_law_213 : decode cL_law 213 = .ok (.invokevirtual 35, 3) := by decide +kernel
theorem dL_law_216 : decode cL_law 216 = .ok (.aload_n 2, 1) := by decide +kernel
theorem dL_law_217 : decode cL_law 217 = .ok (.aload_n 0, 1) := by decide +kernel
theorem dL_law_218 : decode cL_law 218 = .ok (.iload_n 3, 1) := by decide +kernel
theorem dL_law_219 : decode cL_law 219 = .ok (.iconst 1, 1) := by decide +kernel
theorem dL_law_220 : decode cL_law 220 = .ok (.iadd, 1) := by decide +kernel
