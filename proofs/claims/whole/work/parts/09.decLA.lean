theorem d_LA_cell_0 : decode b_LA_cell 0 = .ok (.iload_n 1, 1) := by decide +kernel
theorem d_LA_cell_1 : decode b_LA_cell 1 = .ok (.aload_n 0, 1) := by decide +kernel
theorem d_LA_cell_2 : decode b_LA_cell 2 = .ok (.arraylength, 1) := by decide +kernel
theorem d_LA_cell_3 : decode b_LA_cell 3 = .ok (.if_icmp .ge 9, 3) := by decide +kernel
theorem d_LA_cell_6 : decode b_LA_cell 6 = .ok (.aload_n 0, 1) := by decide +kernel
theorem d_LA_cell_7 : decode b_LA_cell 7 = .ok (.iload_n 1, 1) := by decide +kernel
theorem d_LA_cell_8 : decode b_LA_cell 8 = .ok (.iaload, 1) := by decide +kernel
theorem d_LA_cell_9 : decode b_LA_cell 9 = .ok (.goto 4, 3) := by decide +kernel
theorem d_LA_cell_12 : decode b_LA_cell 12 = .ok (.iconst 0, 1) := by decide +kernel
theorem d_LA_cell_13 : decode b_LA_cell 13 = .ok (.ireturn, 1) := by decide +kernel
theorem d_LA_put_0 : decode b_LA_put 0 = .ok (.aload 5, 2) := by decide +kernel
theorem d_LA_put_2 : decode b_LA_put 2 = .ok (.iconst 0, 1) := by decide +kernel
theorem d_LA_put_3 : decode b_LA_put 3 = .ok (.aload_n 0, 1) := by decide +kernel
theorem d_LA_put_4 : decode b_LA_put 4 = .ok (.iload_n 1, 1) := by decide +kernel
theorem d_LA_put_5 : decode b_LA_put 5 = .ok (.lload_n 2, 1) := by decide +kernel
theorem d_LA_put_6 : decode b_LA_put 6 = .ok (.iload 4, 2) := by decide +kernel
theorem d_LA_put_8 : decode b_LA_put 8 = .ok (.invokevirtual 7, 3) := by decide +kernel
theorem d_LA_put_11 : decode b_LA_put 11 = .ok (.i2l, 1) := by decide +kernel
theorem d_LA_put_12 : decode b_LA_put 12 = .ok (.lastore, 1) := by decide +kernel
theorem d_LA_put_13 : decode b_LA_put 13 = .ok (.goto 7, 3) := by decide +kernel
theorem d_LA_put_16 : decode b_LA_put 16 = .ok (.astore 6, 2) := by decide +kernel
theorem d_LA_put_18 : decode b_LA_put 18 = .ok (.iconst 1, 1) := by decide +kernel
theorem d_LA_put_19 : decode b_LA_put 19 = .ok (.ireturn, 1) := by decide +kernel
theorem d_LA_put_20 : decode b_LA_put 20 = .ok (.iconst 0, 1) := by decide +kernel
theorem d_LA_put_21 : decode b_LA_put 21 = .ok (.ireturn, 1) := by decide +kernel
theorem d_LA_card_0 : decode b_LA_card 0 = .ok (.aload_n 1, 1) := by decide +kernel
theorem d_LA_card_1 : decode b_LA_card 1 = .ok (.iconst 0, 1) := by decide +kernel
theorem d_LA_card_2 : decode b_LA_card 2 = .ok (.aload_n 0, 1) := by decide +kernel
theorem d_LA_card_3 : decode b_LA_card 3 = .ok (.invokevirtual 15, 3) := by decide +kernel
theorem d_LA_card_6 : decode b_LA_card 6 = .ok (.i2l, 1) := by decide +kernel
theorem d_LA_card_7 : decode b_LA_card 7 = .ok (.lastore, 1) := by decide +kernel
theorem d_LA_card_8 : decode b_LA_card 8 = .ok (.goto 6, 3) := by decide +kernel
theorem d_LA_card_11 : decode b_LA_card 11 = .ok (.astore_n 2, 1) := by decide +kernel
theorem d_LA_card_12 : decode b_LA_card 12 = .ok (.iconst 1, 1) := by decide +kernel
theorem d_LA_card_13 : decode b_LA_card 13 = .ok (.ireturn, 1) := by decide +kernel
theorem d_LA_card_14 : decode b_LA_card 14 = .ok (.iconst 0, 1) := by decide +kernel
theorem d_LA_card_15 : decode b_LA_card 15 = .ok (.ireturn, 1) := by decide +kernel
theorem d_LA_run_0 : decode b_LA_run 0 = .ok (.aload_n 2, 1) := by decide +kernel
theorem d_LA_run_1 : decode b_LA_run 1 = .ok (.iconst 0, 1) := by decide +kernel
theorem d_LA_run_2 : decode b_LA_run 2 = .ok (.aload_n 0, 1) := by decide +kernel
theorem d_LA_run_3 : decode b_LA_run 3 = .ok (.iload_n 1, 1) := by decide +kernel
theorem d_LA_run_4 : decode b_LA_run 4 = .ok (.invokevirtual 21, 3) := by decide +kernel
theorem d_LA_run_7 : decode b_LA_run 7 = .ok (.i2l, 1) := by decide +kernel
theorem d_LA_run_8 : decode b_LA_run 8 = .ok (.lastore, 1) := by decide +kernel
theorem d_LA_run_9 : decode b_LA_run 9 = .ok (.goto 6, 3) := by decide +kernel
theorem d_LA_run_12 : decode b_LA_run 12 = .ok (.astore_n 3, 1) := by decide +kernel
theorem d_LA_run_13 : decode b_LA_run 13 = .ok (.iconst 1, 1) := by decide +kernel
theorem d_LA_run_14 : decode b_LA_run 14 = .ok (.ireturn, 1) := by decide +kernel
theorem d_LA_run_15 : decode b_LA_run 15 = .ok (.iconst 0, 1) := by decide +kernel
theorem d_LA_run_16 : decode b_LA_run 16 = .ok (.ireturn, 1) := by decide +kernel
theorem d_LA_at_0 : decode b_LA_at 0 = .ok (.aload_n 2, 1) := by decide +kernel
theorem d_LA_at_1 : decode b_LA_at 1 = .ok (.iconst 0, 1) := by decide +kernel
theorem d_LA_at_2 : decode b_LA_at 2 = .ok (.aload_n 0, 1) := by decide +kernel
theorem d_LA_at_3 : decode b_LA_at 3 = .ok (.iload_n 1, 1) := by decide +kernel
theorem d_LA_at_4 : decode b_LA_at 4 = .ok (.invokevirtual 25, 3) := by decide +kernel
theorem d_LA_at_7 : decode b_LA_at 7 = .ok (.i2l, 1) := by decide +kernel
theorem d_LA_at_8 : decode b_LA_at 8 = .ok (.lastore, 1) := by decide +kernel
theorem d_LA_at_9 : decode b_LA_at 9 = .ok (.goto 6, 3) := by decide +kernel
theorem d_LA_at_12 : decode b_LA_at 12 = .ok (.astore_n 3, 1) := by decide +kernel
theorem d_LA_at_13 : decode b_LA_at 13 = .ok (.iconst 1, 1) := by decide +kernel
theorem d_LA_at_14 : decode b_LA_at 14 = .ok (.ireturn, 1) := by decide +kernel
theorem d_LA_at_15 : decode b_LA_at 15 = .ok (.iconst 0, 1) := by decide +kernel
theorem d_LA_at_16 : decode b_LA_at 16 = .ok (.ireturn, 1) := by decide +kernel
theorem d_LA_isMarked_0 : decode b_LA_isMarked 0 = .ok (.aload_n 2, 1) := by decide +kernel
theorem d_LA_isMarked_1 : decode b_LA_isMarked 1 = .ok (.iconst 0, 1) := by decide +kernel
theorem d_LA_isMarked_2 : decode b_LA_isMarked 2 = .ok (.aload_n 0, 1) := by decide +kernel
theorem d_LA_isMarked_3 : decode b_LA_isMarked 3 = .ok (.iload_n 1, 1) := by decide +kernel
theorem d_LA_isMarked_4 : decode b_LA_isMarked 4 = .ok (.invokevirtual 30, 3) := by decide +kernel
theorem d_LA_isMarked_7 : decode b_LA_isMarked 7 = .ok (.ifCond .eq 7, 3) := by decide +kernel
theorem d_LA_isMarked_10 : decode b_LA_isMarked 10 = .ok (.lconst 1, 1) := by decide +kernel
theorem d_LA_isMarked_11 : decode b_LA_isMarked 11 = .ok (.goto 4, 3) := by decide +kernel
theorem d_LA_isMarked_14 : decode b_LA_isMarked 14 = .ok (.lconst 0, 1) := by decide +kernel
theorem d_LA_isMarked_15 : decode b_LA_isMarked 15 = .ok (.lastore, 1) := by decide +kernel
theorem d_LA_isMarked_16 : decode b_LA_isMarked 16 = .ok (.goto 6, 3) := by decide +kernel
theorem d_LA_isMarked_19 : decode b_LA_isMarked 19 = .ok (.astore_n 3, 1) := by decide +kernel
theorem d_LA_isMarked_20 : decode b_LA_isMarked 20 = .ok (.iconst 1, 1) := by decide +kernel
theorem d_LA_isMarked_21 : decode b_LA_isMarked 21 = .ok (.ireturn, 1) := by decide +kernel
theorem d_LA_isMarked_22 : decode b_LA_isMarked 22 = .ok (.iconst 0, 1) := by decide +kernel
theorem d_LA_isMarked_23 : decode b_LA_isMarked 23 = .ok (.ireturn, 1) := by decide +kernel
theorem d_LA_printed_0 : decode b_LA_printed 0 = .ok (.aload_n 3, 1) := by decide +kernel
theorem d_LA_printed_1 : decode b_LA_printed 1 = .ok (.iconst 0, 1) := by decide +kernel
theorem d_LA_printed_2 : decode b_LA_printed 2 = .ok (.aload_n 0, 1) := by decide +kernel
theorem d_LA_printed_3 : decode b_LA_printed 3 = .ok (.iload_n 1, 1) := by decide +kernel
theorem d_LA_printed_4 : decode b_LA_printed 4 = .ok (.iload_n 2, 1) := by decide +kernel
theorem d_LA_printed_5 : decode b_LA_printed 5 = .ok (.invokevirtual 34, 3) := by decide +kernel
theorem d_LA_printed_8 : decode b_LA_printed 8 = .ok (.i2l, 1) := by decide +kernel
theorem d_LA_printed_9 : decode b_LA_printed 9 = .ok (.lastore, 1) := by decide +kernel
theorem d_LA_printed_10 : decode b_LA_printed 10 = .ok (.goto 7, 3) := by decide +kernel
theorem d_LA_printed_13 : decode b_LA_printed 13 = .ok (.astore 4, 2) := by decide +kernel
theorem d_LA_printed_15 : decode b_LA_printed 15 = .ok (.iconst 1, 1) := by decide +kernel
theorem d_LA_printed_16 : decode b_LA_printed 16 = .ok (.ireturn, 1) := by decide +kernel
theorem d_LA_printed_17 : decode b_LA_printed 17 = .ok (.iconst 0, 1) := by decide +kernel
theorem d_LA_printed_18 : decode b_LA_printed 18 = .ok (.ireturn, 1) := by decide +kernel
theorem d_LA_punched_0 : decode b_LA_punched 0 = .ok (.aload_n 3, 1) := by decide +kernel
theorem d_LA_punched_1 : decode b_LA_punched 1 = .ok (.iconst 0, 1) := by decide +kernel
theorem d_LA_punched_2 : decode b_LA_punched 2 = .ok (.aload_n 0, 1) := by decide +kernel
theorem d_LA_punched_3 : decode b_LA_punched 3 = .ok (.iload_n 1, 1) := by decide +kernel
theorem d_LA_punched_4 : decode b_LA_punched 4 = .ok (.iload_n 2, 1) := by decide +kernel
theorem d_LA_punched_5 : decode b_LA_punched 5 = .ok (.invokevirtual 38, 3) := by decide +kernel
theorem d_LA_punched_8 : decode b_LA_punched 8 = .ok (.i2l, 1) := by decide +kernel
theorem d_LA_punched_9 : decode b_LA_punched 9 = .ok (.lastore, 1) := by decide +kernel
theorem d_LA_punched_10 : decode b_LA_punched 10 = .ok (.goto 7, 3) := by decide +kernel
theorem d_LA_punched_13 : decode b_LA_punched 13 = .ok (.astore 4, 2) := by decide +kernel
theorem d_LA_punched_15 : decode b_LA_punched 15 = .ok (.iconst 1, 1) := by decide +kernel
theorem d_LA_punched_16 : decode b_LA_punched 16 = .ok (.ireturn, 1) := by decide +kernel
theorem d_LA_punched_17 : decode b_LA_punched 17 = .ok (.iconst 0, 1) := by decide +kernel
theorem d_LA_punched_18 : decode b_LA_punched 18 = .ok (.ireturn, 1) := by decide +kernel
theorem d_LA_number_0 : decode b_LA_number 0 = .ok (.aload_n 2, 1) := by decide +kernel
theorem d_LA_number_1 : decode b_LA_number 1 = .ok (.iconst 0, 1) := by decide +kernel
theorem d_LA_number_2 : decode b_LA_number 2 = .ok (.aload_n 0, 1) := by decide +kernel
theorem d_LA_number_3 : decode b_LA_number 3 = .ok (.iload_n 1, 1) := by decide +kernel
theorem d_LA_number_4 : decode b_LA_number 4 = .ok (.invokevirtual 41, 3) := by decide +kernel
theorem d_LA_number_7 : decode b_LA_number 7 = .ok (.lastore, 1) := by decide +kernel
theorem d_LA_number_8 : decode b_LA_number 8 = .ok (.goto 9, 3) := by decide +kernel
theorem d_LA_number_11 : decode b_LA_number 11 = .ok (.astore_n 3, 1) := by decide +kernel
theorem d_LA_number_12 : decode b_LA_number 12 = .ok (.iconst 1, 1) := by decide +kernel
theorem d_LA_number_13 : decode b_LA_number 13 = .ok (.ireturn, 1) := by decide +kernel
theorem d_LA_number_14 : decode b_LA_number 14 = .ok (.astore_n 3, 1) := by decide +kernel
theorem d_LA_number_15 : decode b_LA_number 15 = .ok (.iconst 2, 1) := by decide +kernel
theorem d_LA_number_16 : decode b_LA_number 16 = .ok (.ireturn, 1) := by decide +kernel
theorem d_LA_number_17 : decode b_LA_number 17 = .ok (.iconst 0, 1) := by decide +kernel
theorem d_LA_number_18 : decode b_LA_number 18 = .ok (.ireturn, 1) := by decide +kernel
theorem d_LA_law_0 : decode code 0 = .ok (.new 8, 3) := by decide +kernel
theorem d_LA_law_3 : decode code 3 = .ok (.dup, 1) := by decide +kernel
theorem d_LA_law_4 : decode code 4 = .ok (.aload_n 0, 1) := by decide +kernel
theorem d_LA_law_5 : decode code 5 = .ok (.iconst 0, 1) := by decide +kernel
theorem d_LA_law_6 : decode code 6 = .ok (.invokestatic 47, 3) := by decide +kernel
theorem d_LA_law_9 : decode code 9 = .ok (.invokespecial 53, 3) := by decide +kernel
theorem d_LA_law_12 : decode code 12 = .ok (.astore_n 1, 1) := by decide +kernel
theorem d_LA_law_13 : decode code 13 = .ok (.new 56, 3) := by decide +kernel
theorem d_LA_law_16 : decode code 16 = .ok (.dup, 1) := by decide +kernel
theorem d_LA_law_17 : decode code 17 = .ok (.aload_n 0, 1) := by decide +kernel
theorem d_LA_law_18 : decode code 18 = .ok (.iconst 0, 1) := by decide +kernel
theorem d_LA_law_19 : decode code 19 = .ok (.invokestatic 47, 3) := by decide +kernel
theorem d_LA_law_22 : decode code 22 = .ok (.invokespecial 58, 3) := by decide +kernel
theorem d_LA_law_25 : decode code 25 = .ok (.astore_n 2, 1) := by decide +kernel
theorem d_LA_law_26 : decode code 26 = .ok (.iconst 1, 1) := by decide +kernel
theorem d_LA_law_27 : decode code 27 = .ok (.newarray .long, 2) := by decide +kernel
theorem d_LA_law_29 : decode code 29 = .ok (.astore_n 3, 1) := by decide +kernel
theorem d_LA_law_30 : decode code 30 = .ok (.iconst 1, 1) := by decide +kernel
theorem d_LA_law_31 : decode code 31 = .ok (.istore 4, 2) := by decide +kernel
theorem d_LA_law_33 : decode code 33 = .ok (.iload 4, 2) := by decide +kernel
theorem d_LA_law_35 : decode code 35 = .ok (.aload_n 0, 1) := by decide +kernel
theorem d_LA_law_36 : decode code 36 = .ok (.arraylength, 1) := by decide +kernel
theorem d_LA_law_37 : decode code 37 = .ok (.iconst 5, 1) := by decide +kernel
theorem d_LA_law_38 : decode code 38 = .ok (.isub, 1) := by decide +kernel
theorem d_LA_law_39 : decode code 39 = .ok (.if_icmp .gt 782, 3) := by decide +kernel
theorem d_LA_law_42 : decode code 42 = .ok (.aload_n 0, 1) := by decide +kernel
theorem d_LA_law_43 : decode code 43 = .ok (.iload 4, 2) := by decide +kernel
theorem d_LA_law_45 : decode code 45 = .ok (.iaload, 1) := by decide +kernel
theorem d_LA_law_46 : decode code 46 = .ok (.bipush 15, 2) := by decide +kernel
theorem d_LA_law_48 : decode code 48 = .ok (.iand, 1) := by decide +kernel
theorem d_LA_law_49 : decode code 49 = .ok (.tableswitch 766 0 12 #[67, 132, 244, 281, 325, 350, 406, 462, 525, 550, 618, 686, 741], 67) := by decide +kernel
theorem d_LA_law_116 : decode code 116 = .ok (.aload_n 1, 1) := by decide +kernel
theorem d_LA_law_117 : decode code 117 = .ok (.aload_n 0, 1) := by decide +kernel
theorem d_LA_law_118 : decode code 118 = .ok (.iload 4, 2) := by decide +kernel
theorem d_LA_law_120 : decode code 120 = .ok (.iconst 1, 1) := by decide +kernel
theorem d_LA_law_121 : decode code 121 = .ok (.iadd, 1) := by decide +kernel
theorem d_LA_law_122 : decode code 122 = .ok (.iaload, 1) := by decide +kernel
theorem d_LA_law_123 : decode code 123 = .ok (.aload_n 0, 1) := by decide +kernel
theorem d_LA_law_124 : decode code 124 = .ok (.iload 4, 2) := by decide +kernel
theorem d_LA_law_126 : decode code 126 = .ok (.iconst 2, 1) := by decide +kernel
theorem d_LA_law_127 : decode code 127 = .ok (.iadd, 1) := by decide +kernel
theorem d_LA_law_128 : decode code 128 = .ok (.iaload, 1) := by decide +kernel
theorem d_LA_law_129 : decode code 129 = .ok (.aload_n 0, 1) := by decide +kernel
theorem d_LA_law_130 : decode code 130 = .ok (.iload 4, 2) := by decide +kernel
theorem d_LA_law_132 : decode code 132 = .ok (.iconst 3, 1) := by decide +kernel
theorem d_LA_law_133 : decode code 133 = .ok (.iadd, 1) := by decide +kernel
theorem d_LA_law_134 : decode code 134 = .ok (.iaload, 1) := by decide +kernel
theorem d_LA_law_135 : decode code 135 = .ok (.ifCond .eq 7, 3) := by decide +kernel
theorem d_LA_law_138 : decode code 138 = .ok (.iconst 1, 1) := by decide +kernel
theorem d_LA_law_139 : decode code 139 = .ok (.goto 4, 3) := by decide +kernel
theorem d_LA_law_142 : decode code 142 = .ok (.iconst 0, 1) := by decide +kernel
theorem d_LA_law_143 : decode code 143 = .ok (.invokevirtual 59, 3) := by decide +kernel
theorem d_LA_law_146 : decode code 146 = .ok (.aload_n 2, 1) := by decide +kernel
theorem d_LA_law_147 : decode code 147 = .ok (.aload_n 0, 1) := by decide +kernel
theorem d_LA_law_148 : decode code 148 = .ok (.iload 4, 2) := by decide +kernel
theorem d_LA_law_150 : decode code 150 = .ok (.iconst 1, 1) := by decide +kernel
theorem d_LA_law_151 : decode code 151 = .ok (.iadd, 1) := by decide +kernel
theorem d_LA_law_152 : decode code 152 = .ok (.iaload, 1) := by decide +kernel
theorem d_LA_law_153 : decode code 153 = .ok (.aload_n 0, 1) := by decide +kernel
theorem d_LA_law_154 : decode code 154 = .ok (.iload 4, 2) := by decide +kernel
theorem d_LA_law_156 : decode code 156 = .ok (.iconst 2, 1) := by decide +kernel
theorem d_LA_law_157 : decode code 157 = .ok (.iadd, 1) := by decide +kernel
theorem d_LA_law_158 : decode code 158 = .ok (.iaload, 1) := by decide +kernel
theorem d_LA_law_159 : decode code 159 = .ok (.aload_n 0, 1) := by decide +kernel
theorem d_LA_law_160 : decode code 160 = .ok (.iload 4, 2) := by decide +kernel
theorem d_LA_law_162 : decode code 162 = .ok (.iconst 3, 1) := by decide +kernel
theorem d_LA_law_163 : decode code 163 = .ok (.iadd, 1) := by decide +kernel
theorem d_LA_law_164 : decode code 164 = .ok (.iaload, 1) := by decide +kernel
theorem d_LA_law_165 : decode code 165 = .ok (.ifCond .eq 7, 3) := by decide +kernel
theorem d_LA_law_168 : decode code 168 = .ok (.iconst 1, 1) := by decide +kernel
theorem d_LA_law_169 : decode code 169 = .ok (.goto 4, 3) := by decide +kernel
theorem d_LA_law_172 : decode code 172 = .ok (.iconst 0, 1) := by decide +kernel
theorem d_LA_law_173 : decode code 173 = .ok (.invokevirtual 63, 3) := by decide +kernel
theorem d_LA_law_176 : decode code 176 = .ok (.if_icmp .eq 639, 3) := by decide +kernel
theorem d_LA_law_179 : decode code 179 = .ok (.iconst 0, 1) := by decide +kernel
theorem d_LA_law_180 : decode code 180 = .ok (.ireturn, 1) := by decide +kernel
theorem d_LA_law_181 : decode code 181 = .ok (.aload_n 1, 1) := by decide +kernel
theorem d_LA_law_182 : decode code 182 = .ok (.aload_n 0, 1) := by decide +kernel
theorem d_LA_law_183 : decode code 183 = .ok (.iload 4, 2) := by decide +kernel
theorem d_LA_law_185 : decode code 185 = .ok (.iconst 1, 1) := by decide +kernel
theorem d_LA_law_186 : decode code 186 = .ok (.iadd, 1) := by decide +kernel
theorem d_LA_law_187 : decode code 187 = .ok (.iaload, 1) := by decide +kernel
theorem d_LA_law_188 : decode code 188 = .ok (.aload_n 0, 1) := by decide +kernel
theorem d_LA_law_189 : decode code 189 = .ok (.iload 4, 2) := by decide +kernel
theorem d_LA_law_191 : decode code 191 = .ok (.iconst 2, 1) := by decide +kernel
theorem d_LA_law_192 : decode code 192 = .ok (.iadd, 1) := by decide +kernel
theorem d_LA_law_193 : decode code 193 = .ok (.iaload, 1) := by decide +kernel
theorem d_LA_law_194 : decode code 194 = .ok (.i2l, 1) := by decide +kernel
theorem d_LA_law_195 : decode code 195 = .ok (.bipush 32, 2) := by decide +kernel
theorem d_LA_law_197 : decode code 197 = .ok (.lshl, 1) := by decide +kernel
theorem d_LA_law_198 : decode code 198 = .ok (.aload_n 0, 1) := by decide +kernel
theorem d_LA_law_199 : decode code 199 = .ok (.iload 4, 2) := by decide +kernel
theorem d_LA_law_201 : decode code 201 = .ok (.iconst 3, 1) := by decide +kernel
theorem d_LA_law_202 : decode code 202 = .ok (.iadd, 1) := by decide +kernel
theorem d_LA_law_203 : decode code 203 = .ok (.iaload, 1) := by decide +kernel
theorem d_LA_law_204 : decode code 204 = .ok (.i2l, 1) := by decide +kernel
theorem d_LA_law_205 : decode code 205 = .ok (.ldc2_w 64, 3) := by decide +kernel
theorem d_LA_law_208 : decode code 208 = .ok (.land, 1) := by decide +kernel
theorem d_LA_law_209 : decode code 209 = .ok (.lor, 1) := by decide +kernel
theorem d_LA_law_210 : decode code 210 = .ok (.aload_n 0, 1) := by decide +kernel
theorem d_LA_law_211 : decode code 211 = .ok (.iload 4, 2) := by decide +kernel
theorem d_LA_law_213 : decode code 213 = .ok (.iconst 4, 1) := by decide +kernel
theorem d_LA_law_214 : decode code 214 = .ok (.iadd, 1) := by decide +kernel
theorem d_LA_law_215 : decode code 215 = .ok (.iaload, 1) := by decide +kernel
theorem d_LA_law_216 : decode code 216 = .ok (.aload_n 3, 1) := by decide +kernel
theorem d_LA_law_217 : decode code 217 = .ok (.invokestatic 66, 3) := by decide +kernel
theorem d_LA_law_220 : decode code 220 = .ok (.istore 5, 2) := by decide +kernel
theorem d_LA_law_222 : decode code 222 = .ok (.aload_n 2, 1) := by decide +kernel
theorem d_LA_law_223 : decode code 223 = .ok (.aload_n 0, 1) := by decide +kernel
theorem d_LA_law_224 : decode code 224 = .ok (.iload 4, 2) := by decide +kernel
theorem d_LA_law_226 : decode code 226 = .ok (.iconst 1, 1) := by decide +kernel
theorem d_LA_law_227 : decode code 227 = .ok (.iadd, 1) := by decide +kernel
theorem d_LA_law_228 : decode code 228 = .ok (.iaload, 1) := by decide +kernel
theorem d_LA_law_229 : decode code 229 = .ok (.aload_n 0, 1) := by decide +kernel
theorem d_LA_law_230 : decode code 230 = .ok (.iload 4, 2) := by decide +kernel
theorem d_LA_law_232 : decode code 232 = .ok (.iconst 2, 1) := by decide +kernel
theorem d_LA_law_233 : decode code 233 = .ok (.iadd, 1) := by decide +kernel
theorem d_LA_law_234 : decode code 234 = .ok (.iaload, 1) := by decide +kernel
theorem d_LA_law_235 : decode code 235 = .ok (.i2l, 1) := by decide +kernel
theorem d_LA_law_236 : decode code 236 = .ok (.bipush 32, 2) := by decide +kernel
theorem d_LA_law_238 : decode code 238 = .ok (.lshl, 1) := by decide +kernel
theorem d_LA_law_239 : decode code 239 = .ok (.aload_n 0, 1) := by decide +kernel
theorem d_LA_law_240 : decode code 240 = .ok (.iload 4, 2) := by decide +kernel
theorem d_LA_law_242 : decode code 242 = .ok (.iconst 3, 1) := by decide +kernel
theorem d_LA_law_243 : decode code 243 = .ok (.iadd, 1) := by decide +kernel
theorem d_LA_law_244 : decode code 244 = .ok (.iaload, 1) := by decide +kernel
theorem d_LA_law_245 : decode code 245 = .ok (.i2l, 1) := by decide +kernel
theorem d_LA_law_246 : decode code 246 = .ok (.ldc2_w 64, 3) := by decide +kernel
theorem d_LA_law_249 : decode code 249 = .ok (.land, 1) := by decide +kernel
theorem d_LA_law_250 : decode code 250 = .ok (.lor, 1) := by decide +kernel
theorem d_LA_law_251 : decode code 251 = .ok (.aload_n 0, 1) := by decide +kernel
theorem d_LA_law_252 : decode code 252 = .ok (.iload 4, 2) := by decide +kernel
theorem d_LA_law_254 : decode code 254 = .ok (.iconst 4, 1) := by decide +kernel
theorem d_LA_law_255 : decode code 255 = .ok (.iadd, 1) := by decide +kernel
theorem d_LA_law_256 : decode code 256 = .ok (.iaload, 1) := by decide +kernel
theorem d_LA_law_257 : decode code 257 = .ok (.invokevirtual 69, 3) := by decide +kernel
theorem d_LA_law_260 : decode code 260 = .ok (.istore 6, 2) := by decide +kernel
theorem d_LA_law_262 : decode code 262 = .ok (.aload_n 2, 1) := by decide +kernel
theorem d_LA_law_263 : decode code 263 = .ok (.invokevirtual 70, 3) := by decide +kernel
theorem d_LA_law_266 : decode code 266 = .ok (.iload 5, 2) := by decide +kernel
theorem d_LA_law_268 : decode code 268 = .ok (.if_icmp .eq 5, 3) := by decide +kernel
theorem d_LA_law_271 : decode code 271 = .ok (.iconst 0, 1) := by decide +kernel
theorem d_LA_law_272 : decode code 272 = .ok (.ireturn, 1) := by decide +kernel
theorem d_LA_law_273 : decode code 273 = .ok (.iload 5, 2) := by decide +kernel
theorem d_LA_law_275 : decode code 275 = .ok (.ifCond .ne 15, 3) := by decide +kernel
theorem d_LA_law_278 : decode code 278 = .ok (.aload_n 3, 1) := by decide +kernel
theorem d_LA_law_279 : decode code 279 = .ok (.iconst 0, 1) := by decide +kernel
theorem d_LA_law_280 : decode code 280 = .ok (.laload, 1) := by decide +kernel
theorem d_LA_law_281 : decode code 281 = .ok (.iload 6, 2) := by decide +kernel
theorem d_LA_law_283 : decode code 283 = .ok (.i2l, 1) := by decide +kernel
theorem d_LA_law_284 : decode code 284 = .ok (.lcmp, 1) := by decide +kernel
theorem d_LA_law_285 : decode code 285 = .ok (.ifCond .eq 5, 3) := by decide +kernel
theorem d_LA_law_288 : decode code 288 = .ok (.iconst 0, 1) := by decide +kernel
theorem d_LA_law_289 : decode code 289 = .ok (.ireturn, 1) := by decide +kernel
theorem d_LA_law_290 : decode code 290 = .ok (.goto 525, 3) := by decide +kernel
theorem d_LA_law_293 : decode code 293 = .ok (.aload_n 1, 1) := by decide +kernel
theorem d_LA_law_294 : decode code 294 = .ok (.aload_n 0, 1) := by decide +kernel
theorem d_LA_law_295 : decode code 295 = .ok (.iload 4, 2) := by decide +kernel
theorem d_LA_law_297 : decode code 297 = .ok (.iconst 1, 1) := by decide +kernel
theorem d_LA_law_298 : decode code 298 = .ok (.iadd, 1) := by decide +kernel
theorem d_LA_law_299 : decode code 299 = .ok (.iaload, 1) := by decide +kernel
theorem d_LA_law_300 : decode code 300 = .ok (.aload_n 0, 1) := by decide +kernel
theorem d_LA_law_301 : decode code 301 = .ok (.iload 4, 2) := by decide +kernel
theorem d_LA_law_303 : decode code 303 = .ok (.iconst 2, 1) := by decide +kernel
theorem d_LA_law_304 : decode code 304 = .ok (.iadd, 1) := by decide +kernel
theorem d_LA_law_305 : decode code 305 = .ok (.iaload, 1) := by decide +kernel
theorem d_LA_law_306 : decode code 306 = .ok (.invokevirtual 73, 3) := by decide +kernel
theorem d_LA_law_309 : decode code 309 = .ok (.aload_n 2, 1) := by decide +kernel
theorem d_LA_law_310 : decode code 310 = .ok (.aload_n 0, 1) := by decide +kernel
theorem d_LA_law_311 : decode code 311 = .ok (.iload 4, 2) := by decide +kernel
theorem d_LA_law_313 : decode code 313 = .ok (.iconst 1, 1) := by decide +kernel
theorem d_LA_law_314 : decode code 314 = .ok (.iadd, 1) := by decide +kernel
theorem d_LA_law_315 : decode code 315 = .ok (.iaload, 1) := by decide +kernel
theorem d_LA_law_316 : decode code 316 = .ok (.aload_n 0, 1) := by decide +kernel
theorem d_LA_law_317 : decode code 317 = .ok (.iload 4, 2) := by decide +kernel
theorem d_LA_law_319 : decode code 319 = .ok (.iconst 2, 1) := by decide +kernel
theorem d_LA_law_320 : decode code 320 = .ok (.iadd, 1) := by decide +kernel
theorem d_LA_law_321 : decode code 321 = .ok (.iaload, 1) := by decide +kernel
theorem d_LA_law_322 : decode code 322 = .ok (.invokevirtual 77, 3) := by decide +kernel
theorem d_LA_law_325 : decode code 325 = .ok (.if_icmp .eq 490, 3) := by decide +kernel
theorem d_LA_law_328 : decode code 328 = .ok (.iconst 0, 1) := by decide +kernel
theorem d_LA_law_329 : decode code 329 = .ok (.ireturn, 1) := by decide +kernel
theorem d_LA_law_330 : decode code 330 = .ok (.aload_n 1, 1) := by decide +kernel
theorem d_LA_law_331 : decode code 331 = .ok (.aload_n 3, 1) := by decide +kernel
theorem d_LA_law_332 : decode code 332 = .ok (.invokestatic 78, 3) := by decide +kernel
theorem d_LA_law_335 : decode code 335 = .ok (.istore 5, 2) := by decide +kernel
theorem d_LA_law_337 : decode code 337 = .ok (.aload_n 2, 1) := by decide +kernel
theorem d_LA_law_338 : decode code 338 = .ok (.invokevirtual 81, 3) := by decide +kernel
theorem d_LA_law_341 : decode code 341 = .ok (.istore 6, 2) := by decide +kernel
theorem d_LA_law_343 : decode code 343 = .ok (.aload_n 2, 1) := by decide +kernel
theorem d_LA_law_344 : decode code 344 = .ok (.invokevirtual 70, 3) := by decide +kernel
theorem d_LA_law_347 : decode code 347 = .ok (.iload 5, 2) := by decide +kernel
theorem d_LA_law_349 : decode code 349 = .ok (.if_icmp .eq 5, 3) := by decide +kernel
theorem d_LA_law_352 : decode code 352 = .ok (.iconst 0, 1) := by decide +kernel
theorem d_LA_law_353 : decode code 353 = .ok (.ireturn, 1) := by decide +kernel
theorem d_LA_law_354 : decode code 354 = .ok (.iload 5, 2) := by decide +kernel
theorem d_LA_law_356 : decode code 356 = .ok (.ifCond .ne 15, 3) := by decide +kernel
theorem d_LA_law_359 : decode code 359 = .ok (.aload_n 3, 1) := by decide +kernel
theorem d_LA_law_360 : decode code 360 = .ok (.iconst 0, 1) := by decide +kernel
theorem d_LA_law_361 : decode code 361 = .ok (.laload, 1) := by decide +kernel
theorem d_LA_law_362 : decode code 362 = .ok (.iload 6, 2) := by decide +kernel
theorem d_LA_law_364 : decode code 364 = .ok (.i2l, 1) := by decide +kernel
theorem d_LA_law_365 : decode code 365 = .ok (.lcmp, 1) := by decide +kernel
theorem d_LA_law_366 : decode code 366 = .ok (.ifCond .eq 5, 3) := by decide +kernel
theorem d_LA_law_369 : decode code 369 = .ok (.iconst 0, 1) := by decide +kernel
theorem d_LA_law_370 : decode code 370 = .ok (.ireturn, 1) := by decide +kernel
theorem d_LA_law_371 : decode code 371 = .ok (.goto 444, 3) := by decide +kernel
theorem d_LA_law_374 : decode code 374 = .ok (.aload_n 1, 1) := by decide +kernel
theorem d_LA_law_375 : decode code 375 = .ok (.aload_n 0, 1) := by decide +kernel
theorem d_LA_law_376 : decode code 376 = .ok (.iload 4, 2) := by decide +kernel
theorem d_LA_law_378 : decode code 378 = .ok (.iconst 1, 1) := by decide +kernel
theorem d_LA_law_379 : decode code 379 = .ok (.iadd, 1) := by decide +kernel
theorem d_LA_law_380 : decode code 380 = .ok (.iaload, 1) := by decide +kernel
theorem d_LA_law_381 : decode code 381 = .ok (.invokevirtual 82, 3) := by decide +kernel
theorem d_LA_law_384 : decode code 384 = .ok (.aload_n 2, 1) := by decide +kernel
theorem d_LA_law_385 : decode code 385 = .ok (.aload_n 0, 1) := by decide +kernel
theorem d_LA_law_386 : decode code 386 = .ok (.iload 4, 2) := by decide +kernel
theorem d_LA_law_388 : decode code 388 = .ok (.iconst 1, 1) := by decide +kernel
theorem d_LA_law_389 : decode code 389 = .ok (.iadd, 1) := by decide +kernel
theorem d_LA_law_390 : decode code 390 = .ok (.iaload, 1) := by decide +kernel
theorem d_LA_law_391 : decode code 391 = .ok (.invokevirtual 85, 3) := by decide +kernel
theorem d_LA_law_394 : decode code 394 = .ok (.if_icmp .eq 421, 3) := by decide +kernel
theorem d_LA_law_397 : decode code 397 = .ok (.iconst 0, 1) := by decide +kernel
theorem d_LA_law_398 : decode code 398 = .ok (.ireturn, 1) := by decide +kernel
theorem d_LA_law_399 : decode code 399 = .ok (.aload_n 1, 1) := by decide +kernel
theorem d_LA_law_400 : decode code 400 = .ok (.aload_n 0, 1) := by decide +kernel
theorem d_LA_law_401 : decode code 401 = .ok (.iload 4, 2) := by decide +kernel
theorem d_LA_law_403 : decode code 403 = .ok (.iconst 1, 1) := by decide +kernel
theorem d_LA_law_404 : decode code 404 = .ok (.iadd, 1) := by decide +kernel
theorem d_LA_law_405 : decode code 405 = .ok (.iaload, 1) := by decide +kernel
theorem d_LA_law_406 : decode code 406 = .ok (.aload_n 3, 1) := by decide +kernel
theorem d_LA_law_407 : decode code 407 = .ok (.invokestatic 86, 3) := by decide +kernel
theorem d_LA_law_410 : decode code 410 = .ok (.istore 5, 2) := by decide +kernel
theorem d_LA_law_412 : decode code 412 = .ok (.aload_n 2, 1) := by decide +kernel
theorem d_LA_law_413 : decode code 413 = .ok (.aload_n 0, 1) := by decide +kernel
theorem d_LA_law_414 : decode code 414 = .ok (.iload 4, 2) := by decide +kernel
theorem d_LA_law_416 : decode code 416 = .ok (.iconst 1, 1) := by decide +kernel
theorem d_LA_law_417 : decode code 417 = .ok (.iadd, 1) := by decide +kernel
theorem d_LA_law_418 : decode code 418 = .ok (.iaload, 1) := by decide +kernel
theorem d_LA_law_419 : decode code 419 = .ok (.invokevirtual 89, 3) := by decide +kernel
theorem d_LA_law_422 : decode code 422 = .ok (.istore 6, 2) := by decide +kernel
theorem d_LA_law_424 : decode code 424 = .ok (.aload_n 2, 1) := by decide +kernel
theorem d_LA_law_425 : decode code 425 = .ok (.invokevirtual 70, 3) := by decide +kernel
theorem d_LA_law_428 : decode code 428 = .ok (.iload 5, 2) := by decide +kernel
theorem d_LA_law_430 : decode code 430 = .ok (.if_icmp .eq 5, 3) := by decide +kernel
theorem d_LA_law_433 : decode code 433 = .ok (.iconst 0, 1) := by decide +kernel
theorem d_LA_law_434 : decode code 434 = .ok (.ireturn, 1) := by decide +kernel
theorem d_LA_law_435 : decode code 435 = .ok (.iload 5, 2) := by decide +kernel
theorem d_LA_law_437 : decode code 437 = .ok (.ifCond .ne 15, 3) := by decide +kernel
theorem d_LA_law_440 : decode code 440 = .ok (.aload_n 3, 1) := by decide +kernel
theorem d_LA_law_441 : decode code 441 = .ok (.iconst 0, 1) := by decide +kernel
theorem d_LA_law_442 : decode code 442 = .ok (.laload, 1) := by decide +kernel
theorem d_LA_law_443 : decode code 443 = .ok (.iload 6, 2) := by decide +kernel
theorem d_LA_law_445 : decode code 445 = .ok (.i2l, 1) := by decide +kernel
theorem d_LA_law_446 : decode code 446 = .ok (.lcmp, 1) := by decide +kernel
theorem d_LA_law_447 : decode code 447 = .ok (.ifCond .eq 5, 3) := by decide +kernel
theorem d_LA_law_450 : decode code 450 = .ok (.iconst 0, 1) := by decide +kernel
theorem d_LA_law_451 : decode code 451 = .ok (.ireturn, 1) := by decide +kernel
theorem d_LA_law_452 : decode code 452 = .ok (.goto 363, 3) := by decide +kernel
theorem d_LA_law_455 : decode code 455 = .ok (.aload_n 1, 1) := by decide +kernel
theorem d_LA_law_456 : decode code 456 = .ok (.aload_n 0, 1) := by decide +kernel
theorem d_LA_law_457 : decode code 457 = .ok (.iload 4, 2) := by decide +kernel
theorem d_LA_law_459 : decode code 459 = .ok (.iconst 1, 1) := by decide +kernel
theorem d_LA_law_460 : decode code 460 = .ok (.iadd, 1) := by decide +kernel
theorem d_LA_law_461 : decode code 461 = .ok (.iaload, 1) := by decide +kernel
theorem d_LA_law_462 : decode code 462 = .ok (.aload_n 3, 1) := by decide +kernel
theorem d_LA_law_463 : decode code 463 = .ok (.invokestatic 90, 3) := by decide +kernel
theorem d_LA_law_466 : decode code 466 = .ok (.istore 5, 2) := by decide +kernel
theorem d_LA_law_468 : decode code 468 = .ok (.aload_n 2, 1) := by decide +kernel
theorem d_LA_law_469 : decode code 469 = .ok (.aload_n 0, 1) := by decide +kernel
theorem d_LA_law_470 : decode code 470 = .ok (.iload 4, 2) := by decide +kernel
theorem d_LA_law_472 : decode code 472 = .ok (.iconst 1, 1) := by decide +kernel
theorem d_LA_law_473 : decode code 473 = .ok (.iadd, 1) := by decide +kernel
theorem d_LA_law_474 : decode code 474 = .ok (.iaload, 1) := by decide +kernel
theorem d_LA_law_475 : decode code 475 = .ok (.invokevirtual 92, 3) := by decide +kernel
theorem d_LA_law_478 : decode code 478 = .ok (.istore 6, 2) := by decide +kernel
theorem d_LA_law_480 : decode code 480 = .ok (.aload_n 2, 1) := by decide +kernel
theorem d_LA_law_481 : decode code 481 = .ok (.invokevirtual 70, 3) := by decide +kernel
theorem d_LA_law_484 : decode code 484 = .ok (.iload 5, 2) := by decide +kernel
theorem d_LA_law_486 : decode code 486 = .ok (.if_icmp .eq 5, 3) := by decide +kernel
theorem d_LA_law_489 : decode code 489 = .ok (.iconst 0, 1) := by decide +kernel
theorem d_LA_law_490 : decode code 490 = .ok (.ireturn, 1) := by decide +kernel
theorem d_LA_law_491 : decode code 491 = .ok (.iload 5, 2) := by decide +kernel
theorem d_LA_law_493 : decode code 493 = .ok (.ifCond .ne 15, 3) := by decide +kernel
theorem d_LA_law_496 : decode code 496 = .ok (.aload_n 3, 1) := by decide +kernel
theorem d_LA_law_497 : decode code 497 = .ok (.iconst 0, 1) := by decide +kernel
theorem d_LA_law_498 : decode code 498 = .ok (.laload, 1) := by decide +kernel
theorem d_LA_law_499 : decode code 499 = .ok (.iload 6, 2) := by decide +kernel
theorem d_LA_law_501 : decode code 501 = .ok (.i2l, 1) := by decide +kernel
theorem d_LA_law_502 : decode code 502 = .ok (.lcmp, 1) := by decide +kernel
theorem d_LA_law_503 : decode code 503 = .ok (.ifCond .eq 5, 3) := by decide +kernel
theorem d_LA_law_506 : decode code 506 = .ok (.iconst 0, 1) := by decide +kernel
theorem d_LA_law_507 : decode code 507 = .ok (.ireturn, 1) := by decide +kernel
theorem d_LA_law_508 : decode code 508 = .ok (.goto 307, 3) := by decide +kernel
theorem d_LA_law_511 : decode code 511 = .ok (.aload_n 1, 1) := by decide +kernel
theorem d_LA_law_512 : decode code 512 = .ok (.aload_n 0, 1) := by decide +kernel
theorem d_LA_law_513 : decode code 513 = .ok (.iload 4, 2) := by decide +kernel
theorem d_LA_law_515 : decode code 515 = .ok (.iconst 1, 1) := by decide +kernel
theorem d_LA_law_516 : decode code 516 = .ok (.iadd, 1) := by decide +kernel
theorem d_LA_law_517 : decode code 517 = .ok (.iaload, 1) := by decide +kernel
theorem d_LA_law_518 : decode code 518 = .ok (.aload_n 3, 1) := by decide +kernel
theorem d_LA_law_519 : decode code 519 = .ok (.invokestatic 93, 3) := by decide +kernel
theorem d_LA_law_522 : decode code 522 = .ok (.istore 5, 2) := by decide +kernel
theorem d_LA_law_524 : decode code 524 = .ok (.aload_n 2, 1) := by decide +kernel
theorem d_LA_law_525 : decode code 525 = .ok (.aload_n 0, 1) := by decide +kernel
theorem d_LA_law_526 : decode code 526 = .ok (.iload 4, 2) := by decide +kernel
theorem d_LA_law_528 : decode code 528 = .ok (.iconst 1, 1) := by decide +kernel
theorem d_LA_law_529 : decode code 529 = .ok (.iadd, 1) := by decide +kernel
theorem d_LA_law_530 : decode code 530 = .ok (.iaload, 1) := by decide +kernel
theorem d_LA_law_531 : decode code 531 = .ok (.invokevirtual 95, 3) := by decide +kernel
theorem d_LA_law_534 : decode code 534 = .ok (.istore 6, 2) := by decide +kernel
theorem d_LA_law_536 : decode code 536 = .ok (.aload_n 2, 1) := by decide +kernel
theorem d_LA_law_537 : decode code 537 = .ok (.invokevirtual 70, 3) := by decide +kernel
theorem d_LA_law_540 : decode code 540 = .ok (.iload 5, 2) := by decide +kernel
theorem d_LA_law_542 : decode code 542 = .ok (.if_icmp .eq 5, 3) := by decide +kernel
theorem d_LA_law_545 : decode code 545 = .ok (.iconst 0, 1) := by decide +kernel
theorem d_LA_law_546 : decode code 546 = .ok (.ireturn, 1) := by decide +kernel
theorem d_LA_law_547 : decode code 547 = .ok (.iload 5, 2) := by decide +kernel
theorem d_LA_law_549 : decode code 549 = .ok (.ifCond .ne 22, 3) := by decide +kernel
theorem d_LA_law_552 : decode code 552 = .ok (.aload_n 3, 1) := by decide +kernel
theorem d_LA_law_553 : decode code 553 = .ok (.iconst 0, 1) := by decide +kernel
theorem d_LA_law_554 : decode code 554 = .ok (.laload, 1) := by decide +kernel
theorem d_LA_law_555 : decode code 555 = .ok (.iload 6, 2) := by decide +kernel
theorem d_LA_law_557 : decode code 557 = .ok (.ifCond .eq 7, 3) := by decide +kernel
theorem d_LA_law_560 : decode code 560 = .ok (.lconst 1, 1) := by decide +kernel
theorem d_LA_law_561 : decode code 561 = .ok (.goto 4, 3) := by decide +kernel
theorem d_LA_law_564 : decode code 564 = .ok (.lconst 0, 1) := by decide +kernel
theorem d_LA_law_565 : decode code 565 = .ok (.lcmp, 1) := by decide +kernel
theorem d_LA_law_566 : decode code 566 = .ok (.ifCond .eq 5, 3) := by decide +kernel
theorem d_LA_law_569 : decode code 569 = .ok (.iconst 0, 1) := by decide +kernel
theorem d_LA_law_570 : decode code 570 = .ok (.ireturn, 1) := by decide +kernel
theorem d_LA_law_571 : decode code 571 = .ok (.goto 244, 3) := by decide +kernel
theorem d_LA_law_574 : decode code 574 = .ok (.aload_n 1, 1) := by decide +kernel
theorem d_LA_law_575 : decode code 575 = .ok (.aload_n 0, 1) := by decide +kernel
theorem d_LA_law_576 : decode code 576 = .ok (.iload 4, 2) := by decide +kernel
theorem d_LA_law_578 : decode code 578 = .ok (.iconst 1, 1) := by decide +kernel
theorem d_LA_law_579 : decode code 579 = .ok (.iadd, 1) := by decide +kernel
theorem d_LA_law_580 : decode code 580 = .ok (.iaload, 1) := by decide +kernel
theorem d_LA_law_581 : decode code 581 = .ok (.invokevirtual 96, 3) := by decide +kernel
theorem d_LA_law_584 : decode code 584 = .ok (.aload_n 2, 1) := by decide +kernel
theorem d_LA_law_585 : decode code 585 = .ok (.aload_n 0, 1) := by decide +kernel
theorem d_LA_law_586 : decode code 586 = .ok (.iload 4, 2) := by decide +kernel
theorem d_LA_law_588 : decode code 588 = .ok (.iconst 1, 1) := by decide +kernel
theorem d_LA_law_589 : decode code 589 = .ok (.iadd, 1) := by decide +kernel
theorem d_LA_law_590 : decode code 590 = .ok (.iaload, 1) := by decide +kernel
theorem d_LA_law_591 : decode code 591 = .ok (.invokevirtual 99, 3) := by decide +kernel
theorem d_LA_law_594 : decode code 594 = .ok (.if_icmp .eq 221, 3) := by decide +kernel
theorem d_LA_law_597 : decode code 597 = .ok (.iconst 0, 1) := by decide +kernel
theorem d_LA_law_598 : decode code 598 = .ok (.ireturn, 1) := by decide +kernel
theorem d_LA_law_599 : decode code 599 = .ok (.aload_n 1, 1) := by decide +kernel
theorem d_LA_law_600 : decode code 600 = .ok (.aload_n 0, 1) := by decide +kernel
theorem d_LA_law_601 : decode code 601 = .ok (.iload 4, 2) := by decide +kernel
theorem d_LA_law_603 : decode code 603 = .ok (.iconst 1, 1) := by decide +kernel
theorem d_LA_law_604 : decode code 604 = .ok (.iadd, 1) := by decide +kernel
theorem d_LA_law_605 : decode code 605 = .ok (.iaload, 1) := by decide +kernel
theorem d_LA_law_606 : decode code 606 = .ok (.aload_n 0, 1) := by decide +kernel
theorem d_LA_law_607 : decode code 607 = .ok (.iload 4, 2) := by decide +kernel
theorem d_LA_law_609 : decode code 609 = .ok (.iconst 2, 1) := by decide +kernel
theorem d_LA_law_610 : decode code 610 = .ok (.iadd, 1) := by decide +kernel
theorem d_LA_law_611 : decode code 611 = .ok (.iaload, 1) := by decide +kernel
theorem d_LA_law_612 : decode code 612 = .ok (.aload_n 3, 1) := by decide +kernel
theorem d_LA_law_613 : decode code 613 = .ok (.invokestatic 100, 3) := by decide +kernel
theorem d_LA_law_616 : decode code 616 = .ok (.istore 5, 2) := by decide +kernel
theorem d_LA_law_618 : decode code 618 = .ok (.aload_n 2, 1) := by decide +kernel
theorem d_LA_law_619 : decode code 619 = .ok (.aload_n 0, 1) := by decide +kernel
theorem d_LA_law_620 : decode code 620 = .ok (.iload 4, 2) := by decide +kernel
theorem d_LA_law_622 : decode code 622 = .ok (.iconst 1, 1) := by decide +kernel
theorem d_LA_law_623 : decode code 623 = .ok (.iadd, 1) := by decide +kernel
theorem d_LA_law_624 : decode code 624 = .ok (.iaload, 1) := by decide +kernel
theorem d_LA_law_625 : decode code 625 = .ok (.aload_n 0, 1) := by decide +kernel
theorem d_LA_law_626 : decode code 626 = .ok (.iload 4, 2) := by decide +kernel
theorem d_LA_law_628 : decode code 628 = .ok (.iconst 2, 1) := by decide +kernel
theorem d_LA_law_629 : decode code 629 = .ok (.iadd, 1) := by decide +kernel
theorem d_LA_law_630 : decode code 630 = .ok (.iaload, 1) := by decide +kernel
theorem d_LA_law_631 : decode code 631 = .ok (.invokevirtual 103, 3) := by decide +kernel
theorem d_LA_law_634 : decode code 634 = .ok (.istore 6, 2) := by decide +kernel
theorem d_LA_law_636 : decode code 636 = .ok (.aload_n 2, 1) := by decide +kernel
theorem d_LA_law_637 : decode code 637 = .ok (.invokevirtual 70, 3) := by decide +kernel
theorem d_LA_law_640 : decode code 640 = .ok (.iload 5, 2) := by decide +kernel
theorem d_LA_law_642 : decode code 642 = .ok (.if_icmp .eq 5, 3) := by decide +kernel
theorem d_LA_law_645 : decode code 645 = .ok (.iconst 0, 1) := by decide +kernel
theorem d_LA_law_646 : decode code 646 = .ok (.ireturn, 1) := by decide +kernel
theorem d_LA_law_647 : decode code 647 = .ok (.iload 5, 2) := by decide +kernel
theorem d_LA_law_649 : decode code 649 = .ok (.ifCond .ne 15, 3) := by decide +kernel
theorem d_LA_law_652 : decode code 652 = .ok (.aload_n 3, 1) := by decide +kernel
theorem d_LA_law_653 : decode code 653 = .ok (.iconst 0, 1) := by decide +kernel
theorem d_LA_law_654 : decode code 654 = .ok (.laload, 1) := by decide +kernel
theorem d_LA_law_655 : decode code 655 = .ok (.iload 6, 2) := by decide +kernel
theorem d_LA_law_657 : decode code 657 = .ok (.i2l, 1) := by decide +kernel
theorem d_LA_law_658 : decode code 658 = .ok (.lcmp, 1) := by decide +kernel
theorem d_LA_law_659 : decode code 659 = .ok (.ifCond .eq 5, 3) := by decide +kernel
theorem d_LA_law_662 : decode code 662 = .ok (.iconst 0, 1) := by decide +kernel
theorem d_LA_law_663 : decode code 663 = .ok (.ireturn, 1) := by decide +kernel
theorem d_LA_law_664 : decode code 664 = .ok (.goto 151, 3) := by decide +kernel
theorem d_LA_law_667 : decode code 667 = .ok (.aload_n 1, 1) := by decide +kernel
theorem d_LA_law_668 : decode code 668 = .ok (.aload_n 0, 1) := by decide +kernel
theorem d_LA_law_669 : decode code 669 = .ok (.iload 4, 2) := by decide +kernel
theorem d_LA_law_671 : decode code 671 = .ok (.iconst 1, 1) := by decide +kernel
theorem d_LA_law_672 : decode code 672 = .ok (.iadd, 1) := by decide +kernel
theorem d_LA_law_673 : decode code 673 = .ok (.iaload, 1) := by decide +kernel
theorem d_LA_law_674 : decode code 674 = .ok (.aload_n 0, 1) := by decide +kernel
theorem d_LA_law_675 : decode code 675 = .ok (.iload 4, 2) := by decide +kernel
theorem d_LA_law_677 : decode code 677 = .ok (.iconst 2, 1) := by decide +kernel
theorem d_LA_law_678 : decode code 678 = .ok (.iadd, 1) := by decide +kernel
theorem d_LA_law_679 : decode code 679 = .ok (.iaload, 1) := by decide +kernel
theorem d_LA_law_680 : decode code 680 = .ok (.aload_n 3, 1) := by decide +kernel
theorem d_LA_law_681 : decode code 681 = .ok (.invokestatic 104, 3) := by decide +kernel
theorem d_LA_law_684 : decode code 684 = .ok (.istore 5, 2) := by decide +kernel
theorem d_LA_law_686 : decode code 686 = .ok (.aload_n 2, 1) := by decide +kernel
theorem d_LA_law_687 : decode code 687 = .ok (.aload_n 0, 1) := by decide +kernel
theorem d_LA_law_688 : decode code 688 = .ok (.iload 4, 2) := by decide +kernel
theorem d_LA_law_690 : decode code 690 = .ok (.iconst 1, 1) := by decide +kernel
theorem d_LA_law_691 : decode code 691 = .ok (.iadd, 1) := by decide +kernel
theorem d_LA_law_692 : decode code 692 = .ok (.iaload, 1) := by decide +kernel
theorem d_LA_law_693 : decode code 693 = .ok (.aload_n 0, 1) := by decide +kernel
theorem d_LA_law_694 : decode code 694 = .ok (.iload 4, 2) := by decide +kernel
theorem d_LA_law_696 : decode code 696 = .ok (.iconst 2, 1) := by decide +kernel
theorem d_LA_law_697 : decode code 697 = .ok (.iadd, 1) := by decide +kernel
theorem d_LA_law_698 : decode code 698 = .ok (.iaload, 1) := by decide +kernel
theorem d_LA_law_699 : decode code 699 = .ok (.invokevirtual 106, 3) := by decide +kernel
theorem d_LA_law_702 : decode code 702 = .ok (.istore 6, 2) := by decide +kernel
theorem d_LA_law_704 : decode code 704 = .ok (.aload_n 2, 1) := by decide +kernel
theorem d_LA_law_705 : decode code 705 = .ok (.invokevirtual 70, 3) := by decide +kernel
theorem d_LA_law_708 : decode code 708 = .ok (.iload 5, 2) := by decide +kernel
theorem d_LA_law_710 : decode code 710 = .ok (.if_icmp .eq 5, 3) := by decide +kernel
theorem d_LA_law_713 : decode code 713 = .ok (.iconst 0, 1) := by decide +kernel
theorem d_LA_law_714 : decode code 714 = .ok (.ireturn, 1) := by decide +kernel
theorem d_LA_law_715 : decode code 715 = .ok (.iload 5, 2) := by decide +kernel
theorem d_LA_law_717 : decode code 717 = .ok (.ifCond .ne 15, 3) := by decide +kernel
theorem d_LA_law_720 : decode code 720 = .ok (.aload_n 3, 1) := by decide +kernel
theorem d_LA_law_721 : decode code 721 = .ok (.iconst 0, 1) := by decide +kernel
theorem d_LA_law_722 : decode code 722 = .ok (.laload, 1) := by decide +kernel
theorem d_LA_law_723 : decode code 723 = .ok (.iload 6, 2) := by decide +kernel
theorem d_LA_law_725 : decode code 725 = .ok (.i2l, 1) := by decide +kernel
theorem d_LA_law_726 : decode code 726 = .ok (.lcmp, 1) := by decide +kernel
theorem d_LA_law_727 : decode code 727 = .ok (.ifCond .eq 5, 3) := by decide +kernel
theorem d_LA_law_730 : decode code 730 = .ok (.iconst 0, 1) := by decide +kernel
theorem d_LA_law_731 : decode code 731 = .ok (.ireturn, 1) := by decide +kernel
theorem d_LA_law_732 : decode code 732 = .ok (.goto 83, 3) := by decide +kernel
theorem d_LA_law_735 : decode code 735 = .ok (.aload_n 1, 1) := by decide +kernel
theorem d_LA_law_736 : decode code 736 = .ok (.aload_n 0, 1) := by decide +kernel
theorem d_LA_law_737 : decode code 737 = .ok (.iload 4, 2) := by decide +kernel
theorem d_LA_law_739 : decode code 739 = .ok (.iconst 1, 1) := by decide +kernel
theorem d_LA_law_740 : decode code 740 = .ok (.iadd, 1) := by decide +kernel
theorem d_LA_law_741 : decode code 741 = .ok (.iaload, 1) := by decide +kernel
theorem d_LA_law_742 : decode code 742 = .ok (.aload_n 3, 1) := by decide +kernel
theorem d_LA_law_743 : decode code 743 = .ok (.invokestatic 107, 3) := by decide +kernel
theorem d_LA_law_746 : decode code 746 = .ok (.istore 5, 2) := by decide +kernel
theorem d_LA_law_748 : decode code 748 = .ok (.aload_n 2, 1) := by decide +kernel
theorem d_LA_law_749 : decode code 749 = .ok (.aload_n 0, 1) := by decide +kernel
theorem d_LA_law_750 : decode code 750 = .ok (.iload 4, 2) := by decide +kernel
theorem d_LA_law_752 : decode code 752 = .ok (.iconst 1, 1) := by decide +kernel
theorem d_LA_law_753 : decode code 753 = .ok (.iadd, 1) := by decide +kernel
theorem d_LA_law_754 : decode code 754 = .ok (.iaload, 1) := by decide +kernel
theorem d_LA_law_755 : decode code 755 = .ok (.invokevirtual 109, 3) := by decide +kernel
theorem d_LA_law_758 : decode code 758 = .ok (.lstore 6, 2) := by decide +kernel
theorem d_LA_law_760 : decode code 760 = .ok (.aload_n 2, 1) := by decide +kernel
theorem d_LA_law_761 : decode code 761 = .ok (.invokevirtual 70, 3) := by decide +kernel
theorem d_LA_law_764 : decode code 764 = .ok (.iload 5, 2) := by decide +kernel
theorem d_LA_law_766 : decode code 766 = .ok (.if_icmp .eq 5, 3) := by decide +kernel
theorem d_LA_law_769 : decode code 769 = .ok (.iconst 0, 1) := by decide +kernel
theorem d_LA_law_770 : decode code 770 = .ok (.ireturn, 1) := by decide +kernel
theorem d_LA_law_771 : decode code 771 = .ok (.iload 5, 2) := by decide +kernel
theorem d_LA_law_773 : decode code 773 = .ok (.ifCond .ne 14, 3) := by decide +kernel
theorem d_LA_law_776 : decode code 776 = .ok (.aload_n 3, 1) := by decide +kernel
theorem d_LA_law_777 : decode code 777 = .ok (.iconst 0, 1) := by decide +kernel
theorem d_LA_law_778 : decode code 778 = .ok (.laload, 1) := by decide +kernel
theorem d_LA_law_779 : decode code 779 = .ok (.lload 6, 2) := by decide +kernel
theorem d_LA_law_781 : decode code 781 = .ok (.lcmp, 1) := by decide +kernel
theorem d_LA_law_782 : decode code 782 = .ok (.ifCond .eq 5, 3) := by decide +kernel
theorem d_LA_law_785 : decode code 785 = .ok (.iconst 0, 1) := by decide +kernel
theorem d_LA_law_786 : decode code 786 = .ok (.ireturn, 1) := by decide +kernel
theorem d_LA_law_787 : decode code 787 = .ok (.goto 28, 3) := by decide +kernel
theorem d_LA_law_790 : decode code 790 = .ok (.aload_n 1, 1) := by decide +kernel
theorem d_LA_law_791 : decode code 791 = .ok (.aload_n 0, 1) := by decide +kernel
theorem d_LA_law_792 : decode code 792 = .ok (.iload 4, 2) := by decide +kernel
theorem d_LA_law_794 : decode code 794 = .ok (.iconst 1, 1) := by decide +kernel
theorem d_LA_law_795 : decode code 795 = .ok (.iadd, 1) := by decide +kernel
theorem d_LA_law_796 : decode code 796 = .ok (.iaload, 1) := by decide +kernel
theorem d_LA_law_797 : decode code 797 = .ok (.invokevirtual 110, 3) := by decide +kernel
theorem d_LA_law_800 : decode code 800 = .ok (.aload_n 2, 1) := by decide +kernel
theorem d_LA_law_801 : decode code 801 = .ok (.aload_n 0, 1) := by decide +kernel
theorem d_LA_law_802 : decode code 802 = .ok (.iload 4, 2) := by decide +kernel
theorem d_LA_law_804 : decode code 804 = .ok (.iconst 1, 1) := by decide +kernel
theorem d_LA_law_805 : decode code 805 = .ok (.iadd, 1) := by decide +kernel
theorem d_LA_law_806 : decode code 806 = .ok (.iaload, 1) := by decide +kernel
theorem d_LA_law_807 : decode code 807 = .ok (.invokevirtual 113, 3) := by decide +kernel
theorem d_LA_law_810 : decode code 810 = .ok (.if_icmp .eq 5, 3) := by decide +kernel
theorem d_LA_law_813 : decode code 813 = .ok (.iconst 0, 1) := by decide +kernel
theorem d_LA_law_814 : decode code 814 = .ok (.ireturn, 1) := by decide +kernel
theorem d_LA_law_815 : decode code 815 = .ok (.iinc 4 5, 3) := by decide +kernel
theorem d_LA_law_818 : decode code 818 = .ok (.goto (-785), 3) := by decide +kernel
theorem d_LA_law_821 : decode code 821 = .ok (.iconst 1, 1) := by decide +kernel
theorem d_LA_law_822 : decode code 822 = .ok (.ireturn, 1) := by decide +kernel
