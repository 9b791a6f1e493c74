theorem d_MO_init_0 : decode b_MO_init 0 = .ok (.aload_n 0, 1) := by decide +kernel
theorem d_MO_init_1 : decode b_MO_init 1 = .ok (.invokespecial 1, 3) := by decide +kernel
theorem d_MO_init_4 : decode b_MO_init 4 = .ok (.aload_n 0, 1) := by decide +kernel
theorem d_MO_init_5 : decode b_MO_init 5 = .ok (.sipush 2000, 3) := by decide +kernel
theorem d_MO_init_8 : decode b_MO_init 8 = .ok (.newarray .byte, 2) := by decide +kernel
theorem d_MO_init_10 : decode b_MO_init 10 = .ok (.putfield 7, 3) := by decide +kernel
theorem d_MO_init_13 : decode b_MO_init 13 = .ok (.aload_n 0, 1) := by decide +kernel
theorem d_MO_init_14 : decode b_MO_init 14 = .ok (.sipush 2000, 3) := by decide +kernel
theorem d_MO_init_17 : decode b_MO_init 17 = .ok (.newarray .boolean, 2) := by decide +kernel
theorem d_MO_init_19 : decode b_MO_init 19 = .ok (.putfield 13, 3) := by decide +kernel
theorem d_MO_init_22 : decode b_MO_init 22 = .ok (.aload_n 0, 1) := by decide +kernel
theorem d_MO_init_23 : decode b_MO_init 23 = .ok (.bipush 80, 2) := by decide +kernel
theorem d_MO_init_25 : decode b_MO_init 25 = .ok (.newarray .byte, 2) := by decide +kernel
theorem d_MO_init_27 : decode b_MO_init 27 = .ok (.putfield 17, 3) := by decide +kernel
theorem d_MO_init_30 : decode b_MO_init 30 = .ok (.aload_n 0, 1) := by decide +kernel
theorem d_MO_init_31 : decode b_MO_init 31 = .ok (.sipush 1600, 3) := by decide +kernel
theorem d_MO_init_34 : decode b_MO_init 34 = .ok (.newarray .byte, 2) := by decide +kernel
theorem d_MO_init_36 : decode b_MO_init 36 = .ok (.putfield 20, 3) := by decide +kernel
theorem d_MO_init_39 : decode b_MO_init 39 = .ok (.aload_n 0, 1) := by decide +kernel
theorem d_MO_init_40 : decode b_MO_init 40 = .ok (.sipush 5280, 3) := by decide +kernel
theorem d_MO_init_43 : decode b_MO_init 43 = .ok (.newarray .byte, 2) := by decide +kernel
theorem d_MO_init_45 : decode b_MO_init 45 = .ok (.putfield 23, 3) := by decide +kernel
theorem d_MO_init_48 : decode b_MO_init 48 = .ok (.aload_n 0, 1) := by decide +kernel
theorem d_MO_init_49 : decode b_MO_init 49 = .ok (.sipush 1600, 3) := by decide +kernel
theorem d_MO_init_52 : decode b_MO_init 52 = .ok (.newarray .byte, 2) := by decide +kernel
theorem d_MO_init_54 : decode b_MO_init 54 = .ok (.putfield 26, 3) := by decide +kernel
theorem d_MO_init_57 : decode b_MO_init 57 = .ok (.aload_n 0, 1) := by decide +kernel
theorem d_MO_init_58 : decode b_MO_init 58 = .ok (.sipush 2000, 3) := by decide +kernel
theorem d_MO_init_61 : decode b_MO_init 61 = .ok (.newarray .int, 2) := by decide +kernel
theorem d_MO_init_63 : decode b_MO_init 63 = .ok (.putfield 29, 3) := by decide +kernel
theorem d_MO_init_66 : decode b_MO_init 66 = .ok (.aload_n 0, 1) := by decide +kernel
theorem d_MO_init_67 : decode b_MO_init 67 = .ok (.sipush 2000, 3) := by decide +kernel
theorem d_MO_init_70 : decode b_MO_init 70 = .ok (.newarray .int, 2) := by decide +kernel
theorem d_MO_init_72 : decode b_MO_init 72 = .ok (.putfield 33, 3) := by decide +kernel
theorem d_MO_init_75 : decode b_MO_init 75 = .ok (.aload_n 0, 1) := by decide +kernel
theorem d_MO_init_76 : decode b_MO_init 76 = .ok (.sipush 2000, 3) := by decide +kernel
theorem d_MO_init_79 : decode b_MO_init 79 = .ok (.newarray .byte, 2) := by decide +kernel
theorem d_MO_init_81 : decode b_MO_init 81 = .ok (.putfield 36, 3) := by decide +kernel
theorem d_MO_init_84 : decode b_MO_init 84 = .ok (.aload_n 0, 1) := by decide +kernel
theorem d_MO_init_85 : decode b_MO_init 85 = .ok (.iload_n 1, 1) := by decide +kernel
theorem d_MO_init_86 : decode b_MO_init 86 = .ok (.sipush 400, 3) := by decide +kernel
theorem d_MO_init_89 : decode b_MO_init 89 = .ok (.if_icmp .lt 14, 3) := by decide +kernel
theorem d_MO_init_92 : decode b_MO_init 92 = .ok (.iload_n 1, 1) := by decide +kernel
theorem d_MO_init_93 : decode b_MO_init 93 = .ok (.sipush 2000, 3) := by decide +kernel
theorem d_MO_init_96 : decode b_MO_init 96 = .ok (.if_icmp .gt 7, 3) := by decide +kernel
theorem d_MO_init_99 : decode b_MO_init 99 = .ok (.iload_n 1, 1) := by decide +kernel
theorem d_MO_init_100 : decode b_MO_init 100 = .ok (.goto 6, 3) := by decide +kernel
theorem d_MO_init_103 : decode b_MO_init 103 = .ok (.sipush 1400, 3) := by decide +kernel
theorem d_MO_init_106 : decode b_MO_init 106 = .ok (.putfield 39, 3) := by decide +kernel
theorem d_MO_init_109 : decode b_MO_init 109 = .ok (.return_, 1) := by decide +kernel
theorem d_MO_thrown_0 : decode b_MO_thrown 0 = .ok (.aload_n 0, 1) := by decide +kernel
theorem d_MO_thrown_1 : decode b_MO_thrown 1 = .ok (.getfield 43, 3) := by decide +kernel
theorem d_MO_thrown_4 : decode b_MO_thrown 4 = .ok (.ireturn, 1) := by decide +kernel
theorem d_MO_is_0 : decode b_MO_is 0 = .ok (.iload_n 1, 1) := by decide +kernel
theorem d_MO_is_1 : decode b_MO_is 1 = .ok (.ifCond .lt 15, 3) := by decide +kernel
theorem d_MO_is_4 : decode b_MO_is 4 = .ok (.iload_n 1, 1) := by decide +kernel
theorem d_MO_is_5 : decode b_MO_is 5 = .ok (.aload_n 0, 1) := by decide +kernel
theorem d_MO_is_6 : decode b_MO_is 6 = .ok (.getfield 39, 3) := by decide +kernel
theorem d_MO_is_9 : decode b_MO_is 9 = .ok (.if_icmp .ge 7, 3) := by decide +kernel
theorem d_MO_is_12 : decode b_MO_is 12 = .ok (.iconst 1, 1) := by decide +kernel
theorem d_MO_is_13 : decode b_MO_is 13 = .ok (.goto 4, 3) := by decide +kernel
theorem d_MO_is_16 : decode b_MO_is 16 = .ok (.iconst 0, 1) := by decide +kernel
theorem d_MO_is_17 : decode b_MO_is 17 = .ok (.ireturn, 1) := by decide +kernel
theorem d_MO_isCharacter_0 : decode b_MO_isCharacter 0 = .ok (.iload_n 0, 1) := by decide +kernel
theorem d_MO_isCharacter_1 : decode b_MO_isCharacter 1 = .ok (.ifCond .lt 13, 3) := by decide +kernel
theorem d_MO_isCharacter_4 : decode b_MO_isCharacter 4 = .ok (.iload_n 0, 1) := by decide +kernel
theorem d_MO_isCharacter_5 : decode b_MO_isCharacter 5 = .ok (.bipush 64, 2) := by decide +kernel
theorem d_MO_isCharacter_7 : decode b_MO_isCharacter 7 = .ok (.if_icmp .ge 7, 3) := by decide +kernel
theorem d_MO_isCharacter_10 : decode b_MO_isCharacter 10 = .ok (.iconst 1, 1) := by decide +kernel
theorem d_MO_isCharacter_11 : decode b_MO_isCharacter 11 = .ok (.goto 4, 3) := by decide +kernel
theorem d_MO_isCharacter_14 : decode b_MO_isCharacter 14 = .ok (.iconst 0, 1) := by decide +kernel
theorem d_MO_isCharacter_15 : decode b_MO_isCharacter 15 = .ok (.ireturn, 1) := by decide +kernel
theorem d_MO_zone_0 : decode b_MO_zone 0 = .ok (.iload_n 0, 1) := by decide +kernel
theorem d_MO_zone_1 : decode b_MO_zone 1 = .ok (.bipush 48, 2) := by decide +kernel
theorem d_MO_zone_3 : decode b_MO_zone 3 = .ok (.iand, 1) := by decide +kernel
theorem d_MO_zone_4 : decode b_MO_zone 4 = .ok (.ireturn, 1) := by decide +kernel
theorem d_MO_value_0 : decode b_MO_value 0 = .ok (.iload_n 0, 1) := by decide +kernel
theorem d_MO_value_1 : decode b_MO_value 1 = .ok (.bipush 15, 2) := by decide +kernel
theorem d_MO_value_3 : decode b_MO_value 3 = .ok (.iand, 1) := by decide +kernel
theorem d_MO_value_4 : decode b_MO_value 4 = .ok (.bipush 10, 2) := by decide +kernel
theorem d_MO_value_6 : decode b_MO_value 6 = .ok (.irem, 1) := by decide +kernel
theorem d_MO_value_7 : decode b_MO_value 7 = .ok (.ireturn, 1) := by decide +kernel
theorem d_MO_digit_0 : decode b_MO_digit 0 = .ok (.iload_n 0, 1) := by decide +kernel
theorem d_MO_digit_1 : decode b_MO_digit 1 = .ok (.ifCond .ne 8, 3) := by decide +kernel
theorem d_MO_digit_4 : decode b_MO_digit 4 = .ok (.bipush 10, 2) := by decide +kernel
theorem d_MO_digit_6 : decode b_MO_digit 6 = .ok (.goto 4, 3) := by decide +kernel
theorem d_MO_digit_9 : decode b_MO_digit 9 = .ok (.iload_n 0, 1) := by decide +kernel
theorem d_MO_digit_10 : decode b_MO_digit 10 = .ok (.ireturn, 1) := by decide +kernel
theorem d_MO_set_0 : decode b_MO_set 0 = .ok (.aload_n 0, 1) := by decide +kernel
theorem d_MO_set_1 : decode b_MO_set 1 = .ok (.iconst 0, 1) := by decide +kernel
theorem d_MO_set_2 : decode b_MO_set 2 = .ok (.putfield 43, 3) := by decide +kernel
theorem d_MO_set_5 : decode b_MO_set 5 = .ok (.aload_n 0, 1) := by decide +kernel
theorem d_MO_set_6 : decode b_MO_set 6 = .ok (.iload_n 1, 1) := by decide +kernel
theorem d_MO_set_7 : decode b_MO_set 7 = .ok (.invokevirtual 46, 3) := by decide +kernel
theorem d_MO_set_10 : decode b_MO_set 10 = .ok (.ifCond .eq 10, 3) := by decide +kernel
theorem d_MO_set_13 : decode b_MO_set 13 = .ok (.iload_n 2, 1) := by decide +kernel
theorem d_MO_set_14 : decode b_MO_set 14 = .ok (.invokestatic 50, 3) := by decide +kernel
theorem d_MO_set_17 : decode b_MO_set 17 = .ok (.ifCond .ne 5, 3) := by decide +kernel
theorem d_MO_set_20 : decode b_MO_set 20 = .ok (.iconst 0, 1) := by decide +kernel
theorem d_MO_set_21 : decode b_MO_set 21 = .ok (.ireturn, 1) := by decide +kernel
theorem d_MO_set_22 : decode b_MO_set 22 = .ok (.aload_n 0, 1) := by decide +kernel
theorem d_MO_set_23 : decode b_MO_set 23 = .ok (.getfield 7, 3) := by decide +kernel
theorem d_MO_set_26 : decode b_MO_set 26 = .ok (.iload_n 1, 1) := by decide +kernel
theorem d_MO_set_27 : decode b_MO_set 27 = .ok (.iload_n 2, 1) := by decide +kernel
theorem d_MO_set_28 : decode b_MO_set 28 = .ok (.i2b, 1) := by decide +kernel
theorem d_MO_set_29 : decode b_MO_set 29 = .ok (.bastore, 1) := by decide +kernel
theorem d_MO_set_30 : decode b_MO_set 30 = .ok (.aload_n 0, 1) := by decide +kernel
theorem d_MO_set_31 : decode b_MO_set 31 = .ok (.getfield 13, 3) := by decide +kernel
theorem d_MO_set_34 : decode b_MO_set 34 = .ok (.iload_n 1, 1) := by decide +kernel
theorem d_MO_set_35 : decode b_MO_set 35 = .ok (.iload_n 3, 1) := by decide +kernel
theorem d_MO_set_36 : decode b_MO_set 36 = .ok (.bastore, 1) := by decide +kernel
theorem d_MO_set_37 : decode b_MO_set 37 = .ok (.iconst 1, 1) := by decide +kernel
theorem d_MO_set_38 : decode b_MO_set 38 = .ok (.ireturn, 1) := by decide +kernel
theorem d_MO_put_0 : decode b_MO_put 0 = .ok (.iconst 0, 1) := by decide +kernel
theorem d_MO_put_1 : decode b_MO_put 1 = .ok (.istore 5, 2) := by decide +kernel
theorem d_MO_put_3 : decode b_MO_put 3 = .ok (.iload 5, 2) := by decide +kernel
theorem d_MO_put_5 : decode b_MO_put 5 = .ok (.bipush 8, 2) := by decide +kernel
theorem d_MO_put_7 : decode b_MO_put 7 = .ok (.if_icmp .ge 30, 3) := by decide +kernel
theorem d_MO_put_10 : decode b_MO_put 10 = .ok (.lload_n 2, 1) := by decide +kernel
theorem d_MO_put_11 : decode b_MO_put 11 = .ok (.bipush 56, 2) := by decide +kernel
theorem d_MO_put_13 : decode b_MO_put 13 = .ok (.bipush 8, 2) := by decide +kernel
theorem d_MO_put_15 : decode b_MO_put 15 = .ok (.iload 5, 2) := by decide +kernel
theorem d_MO_put_17 : decode b_MO_put 17 = .ok (.imul, 1) := by decide +kernel
theorem d_MO_put_18 : decode b_MO_put 18 = .ok (.isub, 1) := by decide +kernel
theorem d_MO_put_19 : decode b_MO_put 19 = .ok (.lshr, 1) := by decide +kernel
theorem d_MO_put_20 : decode b_MO_put 20 = .ok (.ldc2_w 53, 3) := by decide +kernel
theorem d_MO_put_23 : decode b_MO_put 23 = .ok (.land, 1) := by decide +kernel
theorem d_MO_put_24 : decode b_MO_put 24 = .ok (.ldc2_w 55, 3) := by decide +kernel
theorem d_MO_put_27 : decode b_MO_put 27 = .ok (.lcmp, 1) := by decide +kernel
theorem d_MO_put_28 : decode b_MO_put 28 = .ok (.ifCond .ge 9, 3) := by decide +kernel
theorem d_MO_put_31 : decode b_MO_put 31 = .ok (.iinc 5 1, 3) := by decide +kernel
theorem d_MO_put_34 : decode b_MO_put 34 = .ok (.goto (-31), 3) := by decide +kernel
theorem d_MO_put_37 : decode b_MO_put 37 = .ok (.aload_n 0, 1) := by decide +kernel
theorem d_MO_put_38 : decode b_MO_put 38 = .ok (.iload 5, 2) := by decide +kernel
theorem d_MO_put_40 : decode b_MO_put 40 = .ok (.ifCond .le 26, 3) := by decide +kernel
theorem d_MO_put_43 : decode b_MO_put 43 = .ok (.aload_n 0, 1) := by decide +kernel
theorem d_MO_put_44 : decode b_MO_put 44 = .ok (.iload_n 1, 1) := by decide +kernel
theorem d_MO_put_45 : decode b_MO_put 45 = .ok (.invokevirtual 46, 3) := by decide +kernel
theorem d_MO_put_48 : decode b_MO_put 48 = .ok (.ifCond .eq 14, 3) := by decide +kernel
theorem d_MO_put_51 : decode b_MO_put 51 = .ok (.iload_n 1, 1) := by decide +kernel
theorem d_MO_put_52 : decode b_MO_put 52 = .ok (.iload 5, 2) := by decide +kernel
theorem d_MO_put_54 : decode b_MO_put 54 = .ok (.iadd, 1) := by decide +kernel
theorem d_MO_put_55 : decode b_MO_put 55 = .ok (.aload_n 0, 1) := by decide +kernel
theorem d_MO_put_56 : decode b_MO_put 56 = .ok (.getfield 39, 3) := by decide +kernel
theorem d_MO_put_59 : decode b_MO_put 59 = .ok (.if_icmp .le 7, 3) := by decide +kernel
theorem d_MO_put_62 : decode b_MO_put 62 = .ok (.iconst 1, 1) := by decide +kernel
theorem d_MO_put_63 : decode b_MO_put 63 = .ok (.goto 4, 3) := by decide +kernel
theorem d_MO_put_66 : decode b_MO_put 66 = .ok (.iconst 0, 1) := by decide +kernel
theorem d_MO_put_67 : decode b_MO_put 67 = .ok (.putfield 43, 3) := by decide +kernel
theorem d_MO_put_70 : decode b_MO_put 70 = .ok (.iconst 0, 1) := by decide +kernel
theorem d_MO_put_71 : decode b_MO_put 71 = .ok (.istore 6, 2) := by decide +kernel
theorem d_MO_put_73 : decode b_MO_put 73 = .ok (.iload 6, 2) := by decide +kernel
theorem d_MO_put_75 : decode b_MO_put 75 = .ok (.iload 5, 2) := by decide +kernel
theorem d_MO_put_77 : decode b_MO_put 77 = .ok (.if_icmp .ge 66, 3) := by decide +kernel
theorem d_MO_put_80 : decode b_MO_put 80 = .ok (.aload_n 0, 1) := by decide +kernel
theorem d_MO_put_81 : decode b_MO_put 81 = .ok (.getfield 43, 3) := by decide +kernel
theorem d_MO_put_84 : decode b_MO_put 84 = .ok (.ifCond .ne 59, 3) := by decide +kernel
theorem d_MO_put_87 : decode b_MO_put 87 = .ok (.aload_n 0, 1) := by decide +kernel
theorem d_MO_put_88 : decode b_MO_put 88 = .ok (.getfield 7, 3) := by decide +kernel
theorem d_MO_put_91 : decode b_MO_put 91 = .ok (.iload_n 1, 1) := by decide +kernel
theorem d_MO_put_92 : decode b_MO_put 92 = .ok (.iload 6, 2) := by decide +kernel
theorem d_MO_put_94 : decode b_MO_put 94 = .ok (.iadd, 1) := by decide +kernel
theorem d_MO_put_95 : decode b_MO_put 95 = .ok (.lload_n 2, 1) := by decide +kernel
theorem d_MO_put_96 : decode b_MO_put 96 = .ok (.bipush 56, 2) := by decide +kernel
theorem d_MO_put_98 : decode b_MO_put 98 = .ok (.bipush 8, 2) := by decide +kernel
theorem d_MO_put_100 : decode b_MO_put 100 = .ok (.iload 6, 2) := by decide +kernel
theorem d_MO_put_102 : decode b_MO_put 102 = .ok (.imul, 1) := by decide +kernel
theorem d_MO_put_103 : decode b_MO_put 103 = .ok (.isub, 1) := by decide +kernel
theorem d_MO_put_104 : decode b_MO_put 104 = .ok (.lshr, 1) := by decide +kernel
theorem d_MO_put_105 : decode b_MO_put 105 = .ok (.ldc2_w 57, 3) := by decide +kernel
theorem d_MO_put_108 : decode b_MO_put 108 = .ok (.land, 1) := by decide +kernel
theorem d_MO_put_109 : decode b_MO_put 109 = .ok (.l2i, 1) := by decide +kernel
theorem d_MO_put_110 : decode b_MO_put 110 = .ok (.i2b, 1) := by decide +kernel
theorem d_MO_put_111 : decode b_MO_put 111 = .ok (.bastore, 1) := by decide +kernel
theorem d_MO_put_112 : decode b_MO_put 112 = .ok (.aload_n 0, 1) := by decide +kernel
theorem d_MO_put_113 : decode b_MO_put 113 = .ok (.getfield 13, 3) := by decide +kernel
theorem d_MO_put_116 : decode b_MO_put 116 = .ok (.iload_n 1, 1) := by decide +kernel
theorem d_MO_put_117 : decode b_MO_put 117 = .ok (.iload 6, 2) := by decide +kernel
theorem d_MO_put_119 : decode b_MO_put 119 = .ok (.iadd, 1) := by decide +kernel
theorem d_MO_put_120 : decode b_MO_put 120 = .ok (.iload 4, 2) := by decide +kernel
theorem d_MO_put_122 : decode b_MO_put 122 = .ok (.iload 6, 2) := by decide +kernel
theorem d_MO_put_124 : decode b_MO_put 124 = .ok (.ishr, 1) := by decide +kernel
theorem d_MO_put_125 : decode b_MO_put 125 = .ok (.iconst 1, 1) := by decide +kernel
theorem d_MO_put_126 : decode b_MO_put 126 = .ok (.iand, 1) := by decide +kernel
theorem d_MO_put_127 : decode b_MO_put 127 = .ok (.iconst 1, 1) := by decide +kernel
theorem d_MO_put_128 : decode b_MO_put 128 = .ok (.if_icmp .ne 7, 3) := by decide +kernel
theorem d_MO_put_131 : decode b_MO_put 131 = .ok (.iconst 1, 1) := by decide +kernel
theorem d_MO_put_132 : decode b_MO_put 132 = .ok (.goto 4, 3) := by decide +kernel
theorem d_MO_put_135 : decode b_MO_put 135 = .ok (.iconst 0, 1) := by decide +kernel
theorem d_MO_put_136 : decode b_MO_put 136 = .ok (.bastore, 1) := by decide +kernel
theorem d_MO_put_137 : decode b_MO_put 137 = .ok (.iinc 6 1, 3) := by decide +kernel
theorem d_MO_put_140 : decode b_MO_put 140 = .ok (.goto (-67), 3) := by decide +kernel
theorem d_MO_put_143 : decode b_MO_put 143 = .ok (.aload_n 0, 1) := by decide +kernel
theorem d_MO_put_144 : decode b_MO_put 144 = .ok (.getfield 43, 3) := by decide +kernel
theorem d_MO_put_147 : decode b_MO_put 147 = .ok (.ifCond .le 7, 3) := by decide +kernel
theorem d_MO_put_150 : decode b_MO_put 150 = .ok (.iconst 0, 1) := by decide +kernel
theorem d_MO_put_151 : decode b_MO_put 151 = .ok (.goto 5, 3) := by decide +kernel
theorem d_MO_put_154 : decode b_MO_put 154 = .ok (.iload 5, 2) := by decide +kernel
theorem d_MO_put_156 : decode b_MO_put 156 = .ok (.ireturn, 1) := by decide +kernel
theorem d_MO_column_0 : decode b_MO_column 0 = .ok (.aload_n 0, 1) := by decide +kernel
theorem d_MO_column_1 : decode b_MO_column 1 = .ok (.iconst 0, 1) := by decide +kernel
theorem d_MO_column_2 : decode b_MO_column 2 = .ok (.putfield 43, 3) := by decide +kernel
theorem d_MO_column_5 : decode b_MO_column 5 = .ok (.iload_n 1, 1) := by decide +kernel
theorem d_MO_column_6 : decode b_MO_column 6 = .ok (.iconst 1, 1) := by decide +kernel
theorem d_MO_column_7 : decode b_MO_column 7 = .ok (.if_icmp .lt 16, 3) := by decide +kernel
theorem d_MO_column_10 : decode b_MO_column 10 = .ok (.iload_n 1, 1) := by decide +kernel
theorem d_MO_column_11 : decode b_MO_column 11 = .ok (.bipush 80, 2) := by decide +kernel
theorem d_MO_column_13 : decode b_MO_column 13 = .ok (.if_icmp .gt 10, 3) := by decide +kernel
theorem d_MO_column_16 : decode b_MO_column 16 = .ok (.iload_n 2, 1) := by decide +kernel
theorem d_MO_column_17 : decode b_MO_column 17 = .ok (.invokestatic 50, 3) := by decide +kernel
theorem d_MO_column_20 : decode b_MO_column 20 = .ok (.ifCond .ne 5, 3) := by decide +kernel
theorem d_MO_column_23 : decode b_MO_column 23 = .ok (.iconst 0, 1) := by decide +kernel
theorem d_MO_column_24 : decode b_MO_column 24 = .ok (.ireturn, 1) := by decide +kernel
theorem d_MO_column_25 : decode b_MO_column 25 = .ok (.aload_n 0, 1) := by decide +kernel
theorem d_MO_column_26 : decode b_MO_column 26 = .ok (.getfield 17, 3) := by decide +kernel
theorem d_MO_column_29 : decode b_MO_column 29 = .ok (.iload_n 1, 1) := by decide +kernel
theorem d_MO_column_30 : decode b_MO_column 30 = .ok (.iconst 1, 1) := by decide +kernel
theorem d_MO_column_31 : decode b_MO_column 31 = .ok (.isub, 1) := by decide +kernel
theorem d_MO_column_32 : decode b_MO_column 32 = .ok (.iload_n 2, 1) := by decide +kernel
theorem d_MO_column_33 : decode b_MO_column 33 = .ok (.i2b, 1) := by decide +kernel
theorem d_MO_column_34 : decode b_MO_column 34 = .ok (.bastore, 1) := by decide +kernel
theorem d_MO_column_35 : decode b_MO_column 35 = .ok (.iconst 1, 1) := by decide +kernel
theorem d_MO_column_36 : decode b_MO_column 36 = .ok (.ireturn, 1) := by decide +kernel
theorem d_MO_card_0 : decode b_MO_card 0 = .ok (.aload_n 0, 1) := by decide +kernel
theorem d_MO_card_1 : decode b_MO_card 1 = .ok (.aload_n 0, 1) := by decide +kernel
theorem d_MO_card_2 : decode b_MO_card 2 = .ok (.getfield 59, 3) := by decide +kernel
theorem d_MO_card_5 : decode b_MO_card 5 = .ok (.bipush 20, 2) := by decide +kernel
theorem d_MO_card_7 : decode b_MO_card 7 = .ok (.if_icmp .ne 7, 3) := by decide +kernel
theorem d_MO_card_10 : decode b_MO_card 10 = .ok (.iconst 1, 1) := by decide +kernel
theorem d_MO_card_11 : decode b_MO_card 11 = .ok (.goto 4, 3) := by decide +kernel
theorem d_MO_card_14 : decode b_MO_card 14 = .ok (.iconst 0, 1) := by decide +kernel
theorem d_MO_card_15 : decode b_MO_card 15 = .ok (.putfield 43, 3) := by decide +kernel
theorem d_MO_card_18 : decode b_MO_card 18 = .ok (.aload_n 0, 1) := by decide +kernel
theorem d_MO_card_19 : decode b_MO_card 19 = .ok (.getfield 43, 3) := by decide +kernel
theorem d_MO_card_22 : decode b_MO_card 22 = .ok (.ifCond .le 5, 3) := by decide +kernel
theorem d_MO_card_25 : decode b_MO_card 25 = .ok (.iconst 0, 1) := by decide +kernel
theorem d_MO_card_26 : decode b_MO_card 26 = .ok (.ireturn, 1) := by decide +kernel
theorem d_MO_card_27 : decode b_MO_card 27 = .ok (.iconst 0, 1) := by decide +kernel
theorem d_MO_card_28 : decode b_MO_card 28 = .ok (.istore_n 1, 1) := by decide +kernel
theorem d_MO_card_29 : decode b_MO_card 29 = .ok (.iload_n 1, 1) := by decide +kernel
theorem d_MO_card_30 : decode b_MO_card 30 = .ok (.bipush 80, 2) := by decide +kernel
theorem d_MO_card_32 : decode b_MO_card 32 = .ok (.if_icmp .ge 36, 3) := by decide +kernel
theorem d_MO_card_35 : decode b_MO_card 35 = .ok (.aload_n 0, 1) := by decide +kernel
theorem d_MO_card_36 : decode b_MO_card 36 = .ok (.getfield 20, 3) := by decide +kernel
theorem d_MO_card_39 : decode b_MO_card 39 = .ok (.bipush 80, 2) := by decide +kernel
theorem d_MO_card_41 : decode b_MO_card 41 = .ok (.aload_n 0, 1) := by decide +kernel
theorem d_MO_card_42 : decode b_MO_card 42 = .ok (.getfield 59, 3) := by decide +kernel
theorem d_MO_card_45 : decode b_MO_card 45 = .ok (.imul, 1) := by decide +kernel
theorem d_MO_card_46 : decode b_MO_card 46 = .ok (.iload_n 1, 1) := by decide +kernel
theorem d_MO_card_47 : decode b_MO_card 47 = .ok (.iadd, 1) := by decide +kernel
theorem d_MO_card_48 : decode b_MO_card 48 = .ok (.aload_n 0, 1) := by decide +kernel
theorem d_MO_card_49 : decode b_MO_card 49 = .ok (.getfield 17, 3) := by decide +kernel
theorem d_MO_card_52 : decode b_MO_card 52 = .ok (.iload_n 1, 1) := by decide +kernel
theorem d_MO_card_53 : decode b_MO_card 53 = .ok (.baload, 1) := by decide +kernel
theorem d_MO_card_54 : decode b_MO_card 54 = .ok (.bastore, 1) := by decide +kernel
theorem d_MO_card_55 : decode b_MO_card 55 = .ok (.aload_n 0, 1) := by decide +kernel
theorem d_MO_card_56 : decode b_MO_card 56 = .ok (.getfield 17, 3) := by decide +kernel
theorem d_MO_card_59 : decode b_MO_card 59 = .ok (.iload_n 1, 1) := by decide +kernel
theorem d_MO_card_60 : decode b_MO_card 60 = .ok (.iconst 0, 1) := by decide +kernel
theorem d_MO_card_61 : decode b_MO_card 61 = .ok (.bastore, 1) := by decide +kernel
theorem d_MO_card_62 : decode b_MO_card 62 = .ok (.iinc 1 1, 3) := by decide +kernel
theorem d_MO_card_65 : decode b_MO_card 65 = .ok (.goto (-36), 3) := by decide +kernel
theorem d_MO_card_68 : decode b_MO_card 68 = .ok (.aload_n 0, 1) := by decide +kernel
theorem d_MO_card_69 : decode b_MO_card 69 = .ok (.dup, 1) := by decide +kernel
theorem d_MO_card_70 : decode b_MO_card 70 = .ok (.getfield 59, 3) := by decide +kernel
theorem d_MO_card_73 : decode b_MO_card 73 = .ok (.iconst 1, 1) := by decide +kernel
theorem d_MO_card_74 : decode b_MO_card 74 = .ok (.iadd, 1) := by decide +kernel
theorem d_MO_card_75 : decode b_MO_card 75 = .ok (.putfield 59, 3) := by decide +kernel
theorem d_MO_card_78 : decode b_MO_card 78 = .ok (.aload_n 0, 1) := by decide +kernel
theorem d_MO_card_79 : decode b_MO_card 79 = .ok (.getfield 59, 3) := by decide +kernel
theorem d_MO_card_82 : decode b_MO_card 82 = .ok (.aload_n 0, 1) := by decide +kernel
theorem d_MO_card_83 : decode b_MO_card 83 = .ok (.getfield 62, 3) := by decide +kernel
theorem d_MO_card_86 : decode b_MO_card 86 = .ok (.isub, 1) := by decide +kernel
theorem d_MO_card_87 : decode b_MO_card 87 = .ok (.ireturn, 1) := by decide +kernel
theorem d_MO_start_0 : decode b_MO_start 0 = .ok (.aload_n 0, 1) := by decide +kernel
theorem d_MO_start_1 : decode b_MO_start 1 = .ok (.iconst 0, 1) := by decide +kernel
theorem d_MO_start_2 : decode b_MO_start 2 = .ok (.putfield 43, 3) := by decide +kernel
theorem d_MO_start_5 : decode b_MO_start 5 = .ok (.aload_n 0, 1) := by decide +kernel
theorem d_MO_start_6 : decode b_MO_start 6 = .ok (.iload_n 1, 1) := by decide +kernel
theorem d_MO_start_7 : decode b_MO_start 7 = .ok (.invokevirtual 46, 3) := by decide +kernel
theorem d_MO_start_10 : decode b_MO_start 10 = .ok (.ifCond .ne 5, 3) := by decide +kernel
theorem d_MO_start_13 : decode b_MO_start 13 = .ok (.iconst 0, 1) := by decide +kernel
theorem d_MO_start_14 : decode b_MO_start 14 = .ok (.ireturn, 1) := by decide +kernel
theorem d_MO_start_15 : decode b_MO_start 15 = .ok (.aload_n 0, 1) := by decide +kernel
theorem d_MO_start_16 : decode b_MO_start 16 = .ok (.iload_n 1, 1) := by decide +kernel
theorem d_MO_start_17 : decode b_MO_start 17 = .ok (.putfield 65, 3) := by decide +kernel
theorem d_MO_start_20 : decode b_MO_start 20 = .ok (.iconst 1, 1) := by decide +kernel
theorem d_MO_start_21 : decode b_MO_start 21 = .ok (.ireturn, 1) := by decide +kernel
theorem d_MO_field_0 : decode b_MO_field 0 = .ok (.iconst 0, 1) := by decide +kernel
theorem d_MO_field_1 : decode b_MO_field 1 = .ok (.istore_n 3, 1) := by decide +kernel
theorem d_MO_field_2 : decode b_MO_field 2 = .ok (.iload_n 2, 1) := by decide +kernel
theorem d_MO_field_3 : decode b_MO_field 3 = .ok (.ifCond .le 7, 3) := by decide +kernel
theorem d_MO_field_6 : decode b_MO_field 6 = .ok (.iconst 1, 1) := by decide +kernel
theorem d_MO_field_7 : decode b_MO_field 7 = .ok (.goto 4, 3) := by decide +kernel
theorem d_MO_field_10 : decode b_MO_field 10 = .ok (.iconst 0, 1) := by decide +kernel
theorem d_MO_field_11 : decode b_MO_field 11 = .ok (.istore 4, 2) := by decide +kernel
theorem d_MO_field_13 : decode b_MO_field 13 = .ok (.iload 4, 2) := by decide +kernel
theorem d_MO_field_15 : decode b_MO_field 15 = .ok (.ifCond .eq 46, 3) := by decide +kernel
theorem d_MO_field_18 : decode b_MO_field 18 = .ok (.aload_n 0, 1) := by decide +kernel
theorem d_MO_field_19 : decode b_MO_field 19 = .ok (.iload_n 1, 1) := by decide +kernel
theorem d_MO_field_20 : decode b_MO_field 20 = .ok (.iload_n 3, 1) := by decide +kernel
theorem d_MO_field_21 : decode b_MO_field 21 = .ok (.isub, 1) := by decide +kernel
theorem d_MO_field_22 : decode b_MO_field 22 = .ok (.invokevirtual 46, 3) := by decide +kernel
theorem d_MO_field_25 : decode b_MO_field 25 = .ok (.ifCond .ne 5, 3) := by decide +kernel
theorem d_MO_field_28 : decode b_MO_field 28 = .ok (.iconst 0, 1) := by decide +kernel
theorem d_MO_field_29 : decode b_MO_field 29 = .ok (.ireturn, 1) := by decide +kernel
theorem d_MO_field_30 : decode b_MO_field 30 = .ok (.aload_n 0, 1) := by decide +kernel
theorem d_MO_field_31 : decode b_MO_field 31 = .ok (.getfield 13, 3) := by decide +kernel
theorem d_MO_field_34 : decode b_MO_field 34 = .ok (.iload_n 1, 1) := by decide +kernel
theorem d_MO_field_35 : decode b_MO_field 35 = .ok (.iload_n 3, 1) := by decide +kernel
theorem d_MO_field_36 : decode b_MO_field 36 = .ok (.isub, 1) := by decide +kernel
theorem d_MO_field_37 : decode b_MO_field 37 = .ok (.baload, 1) := by decide +kernel
theorem d_MO_field_38 : decode b_MO_field 38 = .ok (.ifCond .ne 14, 3) := by decide +kernel
theorem d_MO_field_41 : decode b_MO_field 41 = .ok (.iload_n 3, 1) := by decide +kernel
theorem d_MO_field_42 : decode b_MO_field 42 = .ok (.iconst 1, 1) := by decide +kernel
theorem d_MO_field_43 : decode b_MO_field 43 = .ok (.iadd, 1) := by decide +kernel
theorem d_MO_field_44 : decode b_MO_field 44 = .ok (.iload_n 2, 1) := by decide +kernel
theorem d_MO_field_45 : decode b_MO_field 45 = .ok (.if_icmp .ge 7, 3) := by decide +kernel
theorem d_MO_field_48 : decode b_MO_field 48 = .ok (.iconst 1, 1) := by decide +kernel
theorem d_MO_field_49 : decode b_MO_field 49 = .ok (.goto 4, 3) := by decide +kernel
theorem d_MO_field_52 : decode b_MO_field 52 = .ok (.iconst 0, 1) := by decide +kernel
theorem d_MO_field_53 : decode b_MO_field 53 = .ok (.istore 4, 2) := by decide +kernel
theorem d_MO_field_55 : decode b_MO_field 55 = .ok (.iinc 3 1, 3) := by decide +kernel
theorem d_MO_field_58 : decode b_MO_field 58 = .ok (.goto (-45), 3) := by decide +kernel
theorem d_MO_field_61 : decode b_MO_field 61 = .ok (.iload_n 3, 1) := by decide +kernel
theorem d_MO_field_62 : decode b_MO_field 62 = .ok (.ireturn, 1) := by decide +kernel
theorem d_MO_isMinus_0 : decode b_MO_isMinus 0 = .ok (.iload_n 0, 1) := by decide +kernel
theorem d_MO_isMinus_1 : decode b_MO_isMinus 1 = .ok (.invokestatic 68, 3) := by decide +kernel
theorem d_MO_isMinus_4 : decode b_MO_isMinus 4 = .ok (.bipush 32, 2) := by decide +kernel
theorem d_MO_isMinus_6 : decode b_MO_isMinus 6 = .ok (.if_icmp .ne 7, 3) := by decide +kernel
theorem d_MO_isMinus_9 : decode b_MO_isMinus 9 = .ok (.iconst 1, 1) := by decide +kernel
theorem d_MO_isMinus_10 : decode b_MO_isMinus 10 = .ok (.goto 4, 3) := by decide +kernel
theorem d_MO_isMinus_13 : decode b_MO_isMinus 13 = .ok (.iconst 0, 1) := by decide +kernel
theorem d_MO_isMinus_14 : decode b_MO_isMinus 14 = .ok (.ireturn, 1) := by decide +kernel
theorem d_MO_readDigits_0 : decode b_MO_readDigits 0 = .ok (.iconst 0, 1) := by decide +kernel
theorem d_MO_readDigits_1 : decode b_MO_readDigits 1 = .ok (.istore 5, 2) := by decide +kernel
theorem d_MO_readDigits_3 : decode b_MO_readDigits 3 = .ok (.iload 5, 2) := by decide +kernel
theorem d_MO_readDigits_5 : decode b_MO_readDigits 5 = .ok (.iload 4, 2) := by decide +kernel
theorem d_MO_readDigits_7 : decode b_MO_readDigits 7 = .ok (.if_icmp .ge 45, 3) := by decide +kernel
theorem d_MO_readDigits_10 : decode b_MO_readDigits 10 = .ok (.aload_n 1, 1) := by decide +kernel
theorem d_MO_readDigits_11 : decode b_MO_readDigits 11 = .ok (.iload 5, 2) := by decide +kernel
theorem d_MO_readDigits_13 : decode b_MO_readDigits 13 = .ok (.iload 5, 2) := by decide +kernel
theorem d_MO_readDigits_15 : decode b_MO_readDigits 15 = .ok (.iload_n 3, 1) := by decide +kernel
theorem d_MO_readDigits_16 : decode b_MO_readDigits 16 = .ok (.if_icmp .ge 28, 3) := by decide +kernel
theorem d_MO_readDigits_19 : decode b_MO_readDigits 19 = .ok (.aload_n 0, 1) := by decide +kernel
theorem d_MO_readDigits_20 : decode b_MO_readDigits 20 = .ok (.getfield 7, 3) := by decide +kernel
theorem d_MO_readDigits_23 : decode b_MO_readDigits 23 = .ok (.iload 5, 2) := by decide +kernel
theorem d_MO_readDigits_25 : decode b_MO_readDigits 25 = .ok (.iload_n 3, 1) := by decide +kernel
theorem d_MO_readDigits_26 : decode b_MO_readDigits 26 = .ok (.if_icmp .ge 10, 3) := by decide +kernel
theorem d_MO_readDigits_29 : decode b_MO_readDigits 29 = .ok (.iload_n 2, 1) := by decide +kernel
theorem d_MO_readDigits_30 : decode b_MO_readDigits 30 = .ok (.iload 5, 2) := by decide +kernel
theorem d_MO_readDigits_32 : decode b_MO_readDigits 32 = .ok (.isub, 1) := by decide +kernel
theorem d_MO_readDigits_33 : decode b_MO_readDigits 33 = .ok (.goto 4, 3) := by decide +kernel
theorem d_MO_readDigits_36 : decode b_MO_readDigits 36 = .ok (.iload_n 2, 1) := by decide +kernel
theorem d_MO_readDigits_37 : decode b_MO_readDigits 37 = .ok (.baload, 1) := by decide +kernel
theorem d_MO_readDigits_38 : decode b_MO_readDigits 38 = .ok (.invokestatic 72, 3) := by decide +kernel
theorem d_MO_readDigits_41 : decode b_MO_readDigits 41 = .ok (.goto 4, 3) := by decide +kernel
theorem d_MO_readDigits_44 : decode b_MO_readDigits 44 = .ok (.iconst 0, 1) := by decide +kernel
theorem d_MO_readDigits_45 : decode b_MO_readDigits 45 = .ok (.iastore, 1) := by decide +kernel
theorem d_MO_readDigits_46 : decode b_MO_readDigits 46 = .ok (.iinc 5 1, 3) := by decide +kernel
theorem d_MO_readDigits_49 : decode b_MO_readDigits 49 = .ok (.goto (-46), 3) := by decide +kernel
theorem d_MO_readDigits_52 : decode b_MO_readDigits 52 = .ok (.return_, 1) := by decide +kernel
theorem d_MO_writeDigits_0 : decode b_MO_writeDigits 0 = .ok (.iconst 0, 1) := by decide +kernel
theorem d_MO_writeDigits_1 : decode b_MO_writeDigits 1 = .ok (.istore_n 3, 1) := by decide +kernel
theorem d_MO_writeDigits_2 : decode b_MO_writeDigits 2 = .ok (.iload_n 3, 1) := by decide +kernel
theorem d_MO_writeDigits_3 : decode b_MO_writeDigits 3 = .ok (.iload_n 1, 1) := by decide +kernel
theorem d_MO_writeDigits_4 : decode b_MO_writeDigits 4 = .ok (.if_icmp .ge 40, 3) := by decide +kernel
theorem d_MO_writeDigits_7 : decode b_MO_writeDigits 7 = .ok (.aload_n 0, 1) := by decide +kernel
theorem d_MO_writeDigits_8 : decode b_MO_writeDigits 8 = .ok (.getfield 7, 3) := by decide +kernel
theorem d_MO_writeDigits_11 : decode b_MO_writeDigits 11 = .ok (.aload_n 0, 1) := by decide +kernel
theorem d_MO_writeDigits_12 : decode b_MO_writeDigits 12 = .ok (.getfield 75, 3) := by decide +kernel
theorem d_MO_writeDigits_15 : decode b_MO_writeDigits 15 = .ok (.iload_n 3, 1) := by decide +kernel
theorem d_MO_writeDigits_16 : decode b_MO_writeDigits 16 = .ok (.isub, 1) := by decide +kernel
theorem d_MO_writeDigits_17 : decode b_MO_writeDigits 17 = .ok (.aload_n 0, 1) := by decide +kernel
theorem d_MO_writeDigits_18 : decode b_MO_writeDigits 18 = .ok (.getfield 33, 3) := by decide +kernel
theorem d_MO_writeDigits_21 : decode b_MO_writeDigits 21 = .ok (.iload_n 3, 1) := by decide +kernel
theorem d_MO_writeDigits_22 : decode b_MO_writeDigits 22 = .ok (.iaload, 1) := by decide +kernel
theorem d_MO_writeDigits_23 : decode b_MO_writeDigits 23 = .ok (.invokestatic 78, 3) := by decide +kernel
theorem d_MO_writeDigits_26 : decode b_MO_writeDigits 26 = .ok (.iload_n 3, 1) := by decide +kernel
theorem d_MO_writeDigits_27 : decode b_MO_writeDigits 27 = .ok (.ifCond .ne 7, 3) := by decide +kernel
theorem d_MO_writeDigits_30 : decode b_MO_writeDigits 30 = .ok (.iload_n 2, 1) := by decide +kernel
theorem d_MO_writeDigits_31 : decode b_MO_writeDigits 31 = .ok (.goto 4, 3) := by decide +kernel
theorem d_MO_writeDigits_34 : decode b_MO_writeDigits 34 = .ok (.iconst 0, 1) := by decide +kernel
theorem d_MO_writeDigits_35 : decode b_MO_writeDigits 35 = .ok (.ior, 1) := by decide +kernel
theorem d_MO_writeDigits_36 : decode b_MO_writeDigits 36 = .ok (.i2b, 1) := by decide +kernel
theorem d_MO_writeDigits_37 : decode b_MO_writeDigits 37 = .ok (.bastore, 1) := by decide +kernel
theorem d_MO_writeDigits_38 : decode b_MO_writeDigits 38 = .ok (.iinc 3 1, 3) := by decide +kernel
theorem d_MO_writeDigits_41 : decode b_MO_writeDigits 41 = .ok (.goto (-39), 3) := by decide +kernel
theorem d_MO_writeDigits_44 : decode b_MO_writeDigits 44 = .ok (.return_, 1) := by decide +kernel
theorem d_MO_isMore_0 : decode b_MO_isMore 0 = .ok (.iconst 0, 1) := by decide +kernel
theorem d_MO_isMore_1 : decode b_MO_isMore 1 = .ok (.istore_n 2, 1) := by decide +kernel
theorem d_MO_isMore_2 : decode b_MO_isMore 2 = .ok (.iconst 0, 1) := by decide +kernel
theorem d_MO_isMore_3 : decode b_MO_isMore 3 = .ok (.istore_n 3, 1) := by decide +kernel
theorem d_MO_isMore_4 : decode b_MO_isMore 4 = .ok (.iload_n 3, 1) := by decide +kernel
theorem d_MO_isMore_5 : decode b_MO_isMore 5 = .ok (.iload_n 1, 1) := by decide +kernel
theorem d_MO_isMore_6 : decode b_MO_isMore 6 = .ok (.if_icmp .ge 49, 3) := by decide +kernel
theorem d_MO_isMore_9 : decode b_MO_isMore 9 = .ok (.aload_n 0, 1) := by decide +kernel
theorem d_MO_isMore_10 : decode b_MO_isMore 10 = .ok (.getfield 29, 3) := by decide +kernel
theorem d_MO_isMore_13 : decode b_MO_isMore 13 = .ok (.iload_n 3, 1) := by decide +kernel
theorem d_MO_isMore_14 : decode b_MO_isMore 14 = .ok (.iaload, 1) := by decide +kernel
theorem d_MO_isMore_15 : decode b_MO_isMore 15 = .ok (.aload_n 0, 1) := by decide +kernel
theorem d_MO_isMore_16 : decode b_MO_isMore 16 = .ok (.getfield 33, 3) := by decide +kernel
theorem d_MO_isMore_19 : decode b_MO_isMore 19 = .ok (.iload_n 3, 1) := by decide +kernel
theorem d_MO_isMore_20 : decode b_MO_isMore 20 = .ok (.iaload, 1) := by decide +kernel
theorem d_MO_isMore_21 : decode b_MO_isMore 21 = .ok (.if_icmp .eq 26, 3) := by decide +kernel
theorem d_MO_isMore_24 : decode b_MO_isMore 24 = .ok (.aload_n 0, 1) := by decide +kernel
theorem d_MO_isMore_25 : decode b_MO_isMore 25 = .ok (.getfield 29, 3) := by decide +kernel
theorem d_MO_isMore_28 : decode b_MO_isMore 28 = .ok (.iload_n 3, 1) := by decide +kernel
theorem d_MO_isMore_29 : decode b_MO_isMore 29 = .ok (.iaload, 1) := by decide +kernel
theorem d_MO_isMore_30 : decode b_MO_isMore 30 = .ok (.aload_n 0, 1) := by decide +kernel
theorem d_MO_isMore_31 : decode b_MO_isMore 31 = .ok (.getfield 33, 3) := by decide +kernel
theorem d_MO_isMore_34 : decode b_MO_isMore 34 = .ok (.iload_n 3, 1) := by decide +kernel
theorem d_MO_isMore_35 : decode b_MO_isMore 35 = .ok (.iaload, 1) := by decide +kernel
theorem d_MO_isMore_36 : decode b_MO_isMore 36 = .ok (.if_icmp .le 7, 3) := by decide +kernel
theorem d_MO_isMore_39 : decode b_MO_isMore 39 = .ok (.iconst 1, 1) := by decide +kernel
theorem d_MO_isMore_40 : decode b_MO_isMore 40 = .ok (.goto 8, 3) := by decide +kernel
theorem d_MO_isMore_43 : decode b_MO_isMore 43 = .ok (.iconst 0, 1) := by decide +kernel
theorem d_MO_isMore_44 : decode b_MO_isMore 44 = .ok (.goto 4, 3) := by decide +kernel
theorem d_MO_isMore_47 : decode b_MO_isMore 47 = .ok (.iload_n 2, 1) := by decide +kernel
theorem d_MO_isMore_48 : decode b_MO_isMore 48 = .ok (.istore_n 2, 1) := by decide +kernel
theorem d_MO_isMore_49 : decode b_MO_isMore 49 = .ok (.iinc 3 1, 3) := by decide +kernel
theorem d_MO_isMore_52 : decode b_MO_isMore 52 = .ok (.goto (-48), 3) := by decide +kernel
theorem d_MO_isMore_55 : decode b_MO_isMore 55 = .ok (.iload_n 2, 1) := by decide +kernel
theorem d_MO_isMore_56 : decode b_MO_isMore 56 = .ok (.ireturn, 1) := by decide +kernel
theorem d_MO_add_0 : decode b_MO_add 0 = .ok (.aload_n 0, 1) := by decide +kernel
theorem d_MO_add_1 : decode b_MO_add 1 = .ok (.aload_n 0, 1) := by decide +kernel
theorem d_MO_add_2 : decode b_MO_add 2 = .ok (.getfield 75, 3) := by decide +kernel
theorem d_MO_add_5 : decode b_MO_add 5 = .ok (.sipush 3000, 3) := by decide +kernel
theorem d_MO_add_8 : decode b_MO_add 8 = .ok (.invokevirtual 81, 3) := by decide +kernel
theorem d_MO_add_11 : decode b_MO_add 11 = .ok (.istore_n 1, 1) := by decide +kernel
theorem d_MO_add_12 : decode b_MO_add 12 = .ok (.iload_n 1, 1) := by decide +kernel
theorem d_MO_add_13 : decode b_MO_add 13 = .ok (.ifCond .ne 7, 3) := by decide +kernel
theorem d_MO_add_16 : decode b_MO_add 16 = .ok (.iconst 0, 1) := by decide +kernel
theorem d_MO_add_17 : decode b_MO_add 17 = .ok (.goto 12, 3) := by decide +kernel
theorem d_MO_add_20 : decode b_MO_add 20 = .ok (.aload_n 0, 1) := by decide +kernel
theorem d_MO_add_21 : decode b_MO_add 21 = .ok (.aload_n 0, 1) := by decide +kernel
theorem d_MO_add_22 : decode b_MO_add 22 = .ok (.getfield 85, 3) := by decide +kernel
theorem d_MO_add_25 : decode b_MO_add 25 = .ok (.iload_n 1, 1) := by decide +kernel
theorem d_MO_add_26 : decode b_MO_add 26 = .ok (.invokevirtual 81, 3) := by decide +kernel
theorem d_MO_add_29 : decode b_MO_add 29 = .ok (.istore_n 2, 1) := by decide +kernel
theorem d_MO_add_30 : decode b_MO_add 30 = .ok (.iload_n 2, 1) := by decide +kernel
theorem d_MO_add_31 : decode b_MO_add 31 = .ok (.ifCond .ne 5, 3) := by decide +kernel
theorem d_MO_add_34 : decode b_MO_add 34 = .ok (.iconst 2, 1) := by decide +kernel
theorem d_MO_add_35 : decode b_MO_add 35 = .ok (.ireturn, 1) := by decide +kernel
theorem d_MO_add_36 : decode b_MO_add 36 = .ok (.aload_n 0, 1) := by decide +kernel
theorem d_MO_add_37 : decode b_MO_add 37 = .ok (.getfield 7, 3) := by decide +kernel
theorem d_MO_add_40 : decode b_MO_add 40 = .ok (.aload_n 0, 1) := by decide +kernel
theorem d_MO_add_41 : decode b_MO_add 41 = .ok (.getfield 85, 3) := by decide +kernel
theorem d_MO_add_44 : decode b_MO_add 44 = .ok (.baload, 1) := by decide +kernel
theorem d_MO_add_45 : decode b_MO_add 45 = .ok (.invokestatic 88, 3) := by decide +kernel
theorem d_MO_add_48 : decode b_MO_add 48 = .ok (.aload_n 0, 1) := by decide +kernel
theorem d_MO_add_49 : decode b_MO_add 49 = .ok (.getfield 91, 3) := by decide +kernel
theorem d_MO_add_52 : decode b_MO_add 52 = .ok (.bipush 18, 2) := by decide +kernel
theorem d_MO_add_54 : decode b_MO_add 54 = .ok (.if_icmp .ne 7, 3) := by decide +kernel
theorem d_MO_add_57 : decode b_MO_add 57 = .ok (.iconst 1, 1) := by decide +kernel
theorem d_MO_add_58 : decode b_MO_add 58 = .ok (.goto 4, 3) := by decide +kernel
theorem d_MO_add_61 : decode b_MO_add 61 = .ok (.iconst 0, 1) := by decide +kernel
theorem d_MO_add_62 : decode b_MO_add 62 = .ok (.if_icmp .eq 7, 3) := by decide +kernel
theorem d_MO_add_65 : decode b_MO_add 65 = .ok (.iconst 1, 1) := by decide +kernel
theorem d_MO_add_66 : decode b_MO_add 66 = .ok (.goto 4, 3) := by decide +kernel
theorem d_MO_add_69 : decode b_MO_add 69 = .ok (.iconst 0, 1) := by decide +kernel
theorem d_MO_add_70 : decode b_MO_add 70 = .ok (.istore_n 3, 1) := by decide +kernel
theorem d_MO_add_71 : decode b_MO_add 71 = .ok (.aload_n 0, 1) := by decide +kernel
theorem d_MO_add_72 : decode b_MO_add 72 = .ok (.getfield 7, 3) := by decide +kernel
theorem d_MO_add_75 : decode b_MO_add 75 = .ok (.aload_n 0, 1) := by decide +kernel
theorem d_MO_add_76 : decode b_MO_add 76 = .ok (.getfield 75, 3) := by decide +kernel
theorem d_MO_add_79 : decode b_MO_add 79 = .ok (.baload, 1) := by decide +kernel
theorem d_MO_add_80 : decode b_MO_add 80 = .ok (.invokestatic 88, 3) := by decide +kernel
theorem d_MO_add_83 : decode b_MO_add 83 = .ok (.istore 4, 2) := by decide +kernel
theorem d_MO_add_85 : decode b_MO_add 85 = .ok (.aload_n 0, 1) := by decide +kernel
theorem d_MO_add_86 : decode b_MO_add 86 = .ok (.getfield 7, 3) := by decide +kernel
theorem d_MO_add_89 : decode b_MO_add 89 = .ok (.aload_n 0, 1) := by decide +kernel
theorem d_MO_add_90 : decode b_MO_add 90 = .ok (.getfield 75, 3) := by decide +kernel
theorem d_MO_add_93 : decode b_MO_add 93 = .ok (.baload, 1) := by decide +kernel
theorem d_MO_add_94 : decode b_MO_add 94 = .ok (.invokestatic 68, 3) := by decide +kernel
theorem d_MO_add_97 : decode b_MO_add 97 = .ok (.istore 5, 2) := by decide +kernel
theorem d_MO_add_99 : decode b_MO_add 99 = .ok (.aload_n 0, 1) := by decide +kernel
theorem d_MO_add_100 : decode b_MO_add 100 = .ok (.aload_n 0, 1) := by decide +kernel
theorem d_MO_add_101 : decode b_MO_add 101 = .ok (.getfield 29, 3) := by decide +kernel
theorem d_MO_add_104 : decode b_MO_add 104 = .ok (.aload_n 0, 1) := by decide +kernel
theorem d_MO_add_105 : decode b_MO_add 105 = .ok (.getfield 85, 3) := by decide +kernel
theorem d_MO_add_108 : decode b_MO_add 108 = .ok (.iload_n 2, 1) := by decide +kernel
theorem d_MO_add_109 : decode b_MO_add 109 = .ok (.iload_n 1, 1) := by decide +kernel
theorem d_MO_add_110 : decode b_MO_add 110 = .ok (.invokevirtual 94, 3) := by decide +kernel
theorem d_MO_add_113 : decode b_MO_add 113 = .ok (.aload_n 0, 1) := by decide +kernel
theorem d_MO_add_114 : decode b_MO_add 114 = .ok (.aload_n 0, 1) := by decide +kernel
theorem d_MO_add_115 : decode b_MO_add 115 = .ok (.getfield 33, 3) := by decide +kernel
theorem d_MO_add_118 : decode b_MO_add 118 = .ok (.aload_n 0, 1) := by decide +kernel
theorem d_MO_add_119 : decode b_MO_add 119 = .ok (.getfield 75, 3) := by decide +kernel
theorem d_MO_add_122 : decode b_MO_add 122 = .ok (.iload_n 1, 1) := by decide +kernel
theorem d_MO_add_123 : decode b_MO_add 123 = .ok (.iload_n 1, 1) := by decide +kernel
theorem d_MO_add_124 : decode b_MO_add 124 = .ok (.invokevirtual 94, 3) := by decide +kernel
theorem d_MO_add_127 : decode b_MO_add 127 = .ok (.iload_n 3, 1) := by decide +kernel
theorem d_MO_add_128 : decode b_MO_add 128 = .ok (.iload 4, 2) := by decide +kernel
theorem d_MO_add_130 : decode b_MO_add 130 = .ok (.if_icmp .ne 91, 3) := by decide +kernel
theorem d_MO_add_133 : decode b_MO_add 133 = .ok (.iconst 0, 1) := by decide +kernel
theorem d_MO_add_134 : decode b_MO_add 134 = .ok (.istore 6, 2) := by decide +kernel
theorem d_MO_add_136 : decode b_MO_add 136 = .ok (.iconst 0, 1) := by decide +kernel
theorem d_MO_add_137 : decode b_MO_add 137 = .ok (.istore 7, 2) := by decide +kernel
theorem d_MO_add_139 : decode b_MO_add 139 = .ok (.iload 7, 2) := by decide +kernel
theorem d_MO_add_141 : decode b_MO_add 141 = .ok (.iload_n 1, 1) := by decide +kernel
theorem d_MO_add_142 : decode b_MO_add 142 = .ok (.if_icmp .ge 48, 3) := by decide +kernel
theorem d_MO_add_145 : decode b_MO_add 145 = .ok (.aload_n 0, 1) := by decide +kernel
theorem d_MO_add_146 : decode b_MO_add 146 = .ok (.getfield 29, 3) := by decide +kernel
theorem d_MO_add_149 : decode b_MO_add 149 = .ok (.iload 7, 2) := by decide +kernel
theorem d_MO_add_151 : decode b_MO_add 151 = .ok (.iaload, 1) := by decide +kernel
theorem d_MO_add_152 : decode b_MO_add 152 = .ok (.aload_n 0, 1) := by decide +kernel
theorem d_MO_add_153 : decode b_MO_add 153 = .ok (.getfield 33, 3) := by decide +kernel
theorem d_MO_add_156 : decode b_MO_add 156 = .ok (.iload 7, 2) := by decide +kernel
theorem d_MO_add_158 : decode b_MO_add 158 = .ok (.iaload, 1) := by decide +kernel
theorem d_MO_add_159 : decode b_MO_add 159 = .ok (.iadd, 1) := by decide +kernel
theorem d_MO_add_160 : decode b_MO_add 160 = .ok (.iload 6, 2) := by decide +kernel
theorem d_MO_add_162 : decode b_MO_add 162 = .ok (.iadd, 1) := by decide +kernel
theorem d_MO_add_163 : decode b_MO_add 163 = .ok (.istore 8, 2) := by decide +kernel
theorem d_MO_add_165 : decode b_MO_add 165 = .ok (.aload_n 0, 1) := by decide +kernel
theorem d_MO_add_166 : decode b_MO_add 166 = .ok (.getfield 33, 3) := by decide +kernel
theorem d_MO_add_169 : decode b_MO_add 169 = .ok (.iload 7, 2) := by decide +kernel
theorem d_MO_add_171 : decode b_MO_add 171 = .ok (.iload 8, 2) := by decide +kernel
theorem d_MO_add_173 : decode b_MO_add 173 = .ok (.bipush 10, 2) := by decide +kernel
theorem d_MO_add_175 : decode b_MO_add 175 = .ok (.irem, 1) := by decide +kernel
theorem d_MO_add_176 : decode b_MO_add 176 = .ok (.iastore, 1) := by decide +kernel
theorem d_MO_add_177 : decode b_MO_add 177 = .ok (.iload 8, 2) := by decide +kernel
theorem d_MO_add_179 : decode b_MO_add 179 = .ok (.bipush 10, 2) := by decide +kernel
theorem d_MO_add_181 : decode b_MO_add 181 = .ok (.idiv, 1) := by decide +kernel
theorem d_MO_add_182 : decode b_MO_add 182 = .ok (.istore 6, 2) := by decide +kernel
theorem d_MO_add_184 : decode b_MO_add 184 = .ok (.iinc 7 1, 3) := by decide +kernel
theorem d_MO_add_187 : decode b_MO_add 187 = .ok (.goto (-48), 3) := by decide +kernel
theorem d_MO_add_190 : decode b_MO_add 190 = .ok (.aload_n 0, 1) := by decide +kernel
theorem d_MO_add_191 : decode b_MO_add 191 = .ok (.aload_n 0, 1) := by decide +kernel
theorem d_MO_add_192 : decode b_MO_add 192 = .ok (.getfield 98, 3) := by decide +kernel
theorem d_MO_add_195 : decode b_MO_add 195 = .ok (.ifCond .ne 8, 3) := by decide +kernel
theorem d_MO_add_198 : decode b_MO_add 198 = .ok (.iload 6, 2) := by decide +kernel
theorem d_MO_add_200 : decode b_MO_add 200 = .ok (.ifCond .le 7, 3) := by decide +kernel
theorem d_MO_add_203 : decode b_MO_add 203 = .ok (.iconst 1, 1) := by decide +kernel
theorem d_MO_add_204 : decode b_MO_add 204 = .ok (.goto 4, 3) := by decide +kernel
theorem d_MO_add_207 : decode b_MO_add 207 = .ok (.iconst 0, 1) := by decide +kernel
theorem d_MO_add_208 : decode b_MO_add 208 = .ok (.putfield 98, 3) := by decide +kernel
theorem d_MO_add_211 : decode b_MO_add 211 = .ok (.aload_n 0, 1) := by decide +kernel
theorem d_MO_add_212 : decode b_MO_add 212 = .ok (.iload_n 1, 1) := by decide +kernel
theorem d_MO_add_213 : decode b_MO_add 213 = .ok (.iload 5, 2) := by decide +kernel
theorem d_MO_add_215 : decode b_MO_add 215 = .ok (.invokevirtual 102, 3) := by decide +kernel
theorem d_MO_add_218 : decode b_MO_add 218 = .ok (.goto 137, 3) := by decide +kernel
theorem d_MO_add_221 : decode b_MO_add 221 = .ok (.aload_n 0, 1) := by decide +kernel
theorem d_MO_add_222 : decode b_MO_add 222 = .ok (.iload_n 1, 1) := by decide +kernel
theorem d_MO_add_223 : decode b_MO_add 223 = .ok (.invokevirtual 106, 3) := by decide +kernel
theorem d_MO_add_226 : decode b_MO_add 226 = .ok (.istore 6, 2) := by decide +kernel
theorem d_MO_add_228 : decode b_MO_add 228 = .ok (.iconst 0, 1) := by decide +kernel
theorem d_MO_add_229 : decode b_MO_add 229 = .ok (.istore 7, 2) := by decide +kernel
theorem d_MO_add_231 : decode b_MO_add 231 = .ok (.iconst 0, 1) := by decide +kernel
theorem d_MO_add_232 : decode b_MO_add 232 = .ok (.istore 8, 2) := by decide +kernel
theorem d_MO_add_234 : decode b_MO_add 234 = .ok (.iload 8, 2) := by decide +kernel
theorem d_MO_add_236 : decode b_MO_add 236 = .ok (.iload_n 1, 1) := by decide +kernel
theorem d_MO_add_237 : decode b_MO_add 237 = .ok (.if_icmp .ge 89, 3) := by decide +kernel
theorem d_MO_add_240 : decode b_MO_add 240 = .ok (.iload 6, 2) := by decide +kernel
theorem d_MO_add_242 : decode b_MO_add 242 = .ok (.ifCond .eq 24, 3) := by decide +kernel
theorem d_MO_add_245 : decode b_MO_add 245 = .ok (.aload_n 0, 1) := by decide +kernel
theorem d_MO_add_246 : decode b_MO_add 246 = .ok (.getfield 29, 3) := by decide +kernel
theorem d_MO_add_249 : decode b_MO_add 249 = .ok (.iload 8, 2) := by decide +kernel
theorem d_MO_add_251 : decode b_MO_add 251 = .ok (.iaload, 1) := by decide +kernel
theorem d_MO_add_252 : decode b_MO_add 252 = .ok (.aload_n 0, 1) := by decide +kernel
theorem d_MO_add_253 : decode b_MO_add 253 = .ok (.getfield 33, 3) := by decide +kernel
theorem d_MO_add_256 : decode b_MO_add 256 = .ok (.iload 8, 2) := by decide +kernel
theorem d_MO_add_258 : decode b_MO_add 258 = .ok (.iaload, 1) := by decide +kernel
theorem d_MO_add_259 : decode b_MO_add 259 = .ok (.isub, 1) := by decide +kernel
theorem d_MO_add_260 : decode b_MO_add 260 = .ok (.iload 7, 2) := by decide +kernel
theorem d_MO_add_262 : decode b_MO_add 262 = .ok (.isub, 1) := by decide +kernel
theorem d_MO_add_263 : decode b_MO_add 263 = .ok (.goto 21, 3) := by decide +kernel
theorem d_MO_add_266 : decode b_MO_add 266 = .ok (.aload_n 0, 1) := by decide +kernel
theorem d_MO_add_267 : decode b_MO_add 267 = .ok (.getfield 33, 3) := by decide +kernel
theorem d_MO_add_270 : decode b_MO_add 270 = .ok (.iload 8, 2) := by decide +kernel
theorem d_MO_add_272 : decode b_MO_add 272 = .ok (.iaload, 1) := by decide +kernel
theorem d_MO_add_273 : decode b_MO_add 273 = .ok (.aload_n 0, 1) := by decide +kernel
theorem d_MO_add_274 : decode b_MO_add 274 = .ok (.getfield 29, 3) := by decide +kernel
theorem d_MO_add_277 : decode b_MO_add 277 = .ok (.iload 8, 2) := by decide +kernel
theorem d_MO_add_279 : decode b_MO_add 279 = .ok (.iaload, 1) := by decide +kernel
theorem d_MO_add_280 : decode b_MO_add 280 = .ok (.isub, 1) := by decide +kernel
theorem d_MO_add_281 : decode b_MO_add 281 = .ok (.iload 7, 2) := by decide +kernel
theorem d_MO_add_283 : decode b_MO_add 283 = .ok (.isub, 1) := by decide +kernel
theorem d_MO_add_284 : decode b_MO_add 284 = .ok (.istore 9, 2) := by decide +kernel
theorem d_MO_add_286 : decode b_MO_add 286 = .ok (.iload 9, 2) := by decide +kernel
theorem d_MO_add_288 : decode b_MO_add 288 = .ok (.ifCond .ge 7, 3) := by decide +kernel
theorem d_MO_add_291 : decode b_MO_add 291 = .ok (.iconst 1, 1) := by decide +kernel
theorem d_MO_add_292 : decode b_MO_add 292 = .ok (.goto 4, 3) := by decide +kernel
theorem d_MO_add_295 : decode b_MO_add 295 = .ok (.iconst 0, 1) := by decide +kernel
theorem d_MO_add_296 : decode b_MO_add 296 = .ok (.istore 7, 2) := by decide +kernel
theorem d_MO_add_298 : decode b_MO_add 298 = .ok (.aload_n 0, 1) := by decide +kernel
theorem d_MO_add_299 : decode b_MO_add 299 = .ok (.getfield 33, 3) := by decide +kernel
theorem d_MO_add_302 : decode b_MO_add 302 = .ok (.iload 8, 2) := by decide +kernel
theorem d_MO_add_304 : decode b_MO_add 304 = .ok (.iload 9, 2) := by decide +kernel
theorem d_MO_add_306 : decode b_MO_add 306 = .ok (.ifCond .ge 11, 3) := by decide +kernel
theorem d_MO_add_309 : decode b_MO_add 309 = .ok (.iload 9, 2) := by decide +kernel
theorem d_MO_add_311 : decode b_MO_add 311 = .ok (.bipush 10, 2) := by decide +kernel
theorem d_MO_add_313 : decode b_MO_add 313 = .ok (.iadd, 1) := by decide +kernel
theorem d_MO_add_314 : decode b_MO_add 314 = .ok (.goto 5, 3) := by decide +kernel
theorem d_MO_add_317 : decode b_MO_add 317 = .ok (.iload 9, 2) := by decide +kernel
theorem d_MO_add_319 : decode b_MO_add 319 = .ok (.iastore, 1) := by decide +kernel
theorem d_MO_add_320 : decode b_MO_add 320 = .ok (.iinc 8 1, 3) := by decide +kernel
theorem d_MO_add_323 : decode b_MO_add 323 = .ok (.goto (-89), 3) := by decide +kernel
theorem d_MO_add_326 : decode b_MO_add 326 = .ok (.aload_n 0, 1) := by decide +kernel
theorem d_MO_add_327 : decode b_MO_add 327 = .ok (.iload_n 1, 1) := by decide +kernel
theorem d_MO_add_328 : decode b_MO_add 328 = .ok (.iload 6, 2) := by decide +kernel
theorem d_MO_add_330 : decode b_MO_add 330 = .ok (.ifCond .eq 10, 3) := by decide +kernel
theorem d_MO_add_333 : decode b_MO_add 333 = .ok (.iload_n 3, 1) := by decide +kernel
theorem d_MO_add_334 : decode b_MO_add 334 = .ok (.ifCond .eq 16, 3) := by decide +kernel
theorem d_MO_add_337 : decode b_MO_add 337 = .ok (.goto 8, 3) := by decide +kernel
theorem d_MO_add_340 : decode b_MO_add 340 = .ok (.iload 4, 2) := by decide +kernel
theorem d_MO_add_342 : decode b_MO_add 342 = .ok (.ifCond .eq 8, 3) := by decide +kernel
theorem d_MO_add_345 : decode b_MO_add 345 = .ok (.bipush 32, 2) := by decide +kernel
theorem d_MO_add_347 : decode b_MO_add 347 = .ok (.goto 5, 3) := by decide +kernel
theorem d_MO_add_350 : decode b_MO_add 350 = .ok (.bipush 48, 2) := by decide +kernel
theorem d_MO_add_352 : decode b_MO_add 352 = .ok (.invokevirtual 102, 3) := by decide +kernel
theorem d_MO_add_355 : decode b_MO_add 355 = .ok (.aload_n 0, 1) := by decide +kernel
theorem d_MO_add_356 : decode b_MO_add 356 = .ok (.dup, 1) := by decide +kernel
theorem d_MO_add_357 : decode b_MO_add 357 = .ok (.getfield 85, 3) := by decide +kernel
theorem d_MO_add_360 : decode b_MO_add 360 = .ok (.iload_n 2, 1) := by decide +kernel
theorem d_MO_add_361 : decode b_MO_add 361 = .ok (.isub, 1) := by decide +kernel
theorem d_MO_add_362 : decode b_MO_add 362 = .ok (.putfield 85, 3) := by decide +kernel
theorem d_MO_add_365 : decode b_MO_add 365 = .ok (.aload_n 0, 1) := by decide +kernel
theorem d_MO_add_366 : decode b_MO_add 366 = .ok (.dup, 1) := by decide +kernel
theorem d_MO_add_367 : decode b_MO_add 367 = .ok (.getfield 75, 3) := by decide +kernel
theorem d_MO_add_370 : decode b_MO_add 370 = .ok (.iload_n 1, 1) := by decide +kernel
theorem d_MO_add_371 : decode b_MO_add 371 = .ok (.isub, 1) := by decide +kernel
theorem d_MO_add_372 : decode b_MO_add 372 = .ok (.putfield 75, 3) := by decide +kernel
theorem d_MO_add_375 : decode b_MO_add 375 = .ok (.iconst 0, 1) := by decide +kernel
theorem d_MO_add_376 : decode b_MO_add 376 = .ok (.ireturn, 1) := by decide +kernel
theorem d_MO_reset_0 : decode b_MO_reset 0 = .ok (.aload_n 0, 1) := by decide +kernel
theorem d_MO_reset_1 : decode b_MO_reset 1 = .ok (.aload_n 0, 1) := by decide +kernel
theorem d_MO_reset_2 : decode b_MO_reset 2 = .ok (.getfield 75, 3) := by decide +kernel
theorem d_MO_reset_5 : decode b_MO_reset 5 = .ok (.sipush 3000, 3) := by decide +kernel
theorem d_MO_reset_8 : decode b_MO_reset 8 = .ok (.invokevirtual 81, 3) := by decide +kernel
theorem d_MO_reset_11 : decode b_MO_reset 11 = .ok (.istore_n 1, 1) := by decide +kernel
theorem d_MO_reset_12 : decode b_MO_reset 12 = .ok (.iload_n 1, 1) := by decide +kernel
theorem d_MO_reset_13 : decode b_MO_reset 13 = .ok (.ifCond .ne 7, 3) := by decide +kernel
theorem d_MO_reset_16 : decode b_MO_reset 16 = .ok (.iconst 0, 1) := by decide +kernel
theorem d_MO_reset_17 : decode b_MO_reset 17 = .ok (.goto 12, 3) := by decide +kernel
theorem d_MO_reset_20 : decode b_MO_reset 20 = .ok (.aload_n 0, 1) := by decide +kernel
theorem d_MO_reset_21 : decode b_MO_reset 21 = .ok (.aload_n 0, 1) := by decide +kernel
theorem d_MO_reset_22 : decode b_MO_reset 22 = .ok (.getfield 85, 3) := by decide +kernel
theorem d_MO_reset_25 : decode b_MO_reset 25 = .ok (.iload_n 1, 1) := by decide +kernel
theorem d_MO_reset_26 : decode b_MO_reset 26 = .ok (.invokevirtual 81, 3) := by decide +kernel
theorem d_MO_reset_29 : decode b_MO_reset 29 = .ok (.istore_n 2, 1) := by decide +kernel
theorem d_MO_reset_30 : decode b_MO_reset 30 = .ok (.iload_n 2, 1) := by decide +kernel
theorem d_MO_reset_31 : decode b_MO_reset 31 = .ok (.ifCond .ne 5, 3) := by decide +kernel
theorem d_MO_reset_34 : decode b_MO_reset 34 = .ok (.iconst 2, 1) := by decide +kernel
theorem d_MO_reset_35 : decode b_MO_reset 35 = .ok (.ireturn, 1) := by decide +kernel
theorem d_MO_reset_36 : decode b_MO_reset 36 = .ok (.aload_n 0, 1) := by decide +kernel
theorem d_MO_reset_37 : decode b_MO_reset 37 = .ok (.getfield 7, 3) := by decide +kernel
theorem d_MO_reset_40 : decode b_MO_reset 40 = .ok (.aload_n 0, 1) := by decide +kernel
theorem d_MO_reset_41 : decode b_MO_reset 41 = .ok (.getfield 85, 3) := by decide +kernel
theorem d_MO_reset_44 : decode b_MO_reset 44 = .ok (.baload, 1) := by decide +kernel
theorem d_MO_reset_45 : decode b_MO_reset 45 = .ok (.invokestatic 88, 3) := by decide +kernel
theorem d_MO_reset_48 : decode b_MO_reset 48 = .ok (.aload_n 0, 1) := by decide +kernel
theorem d_MO_reset_49 : decode b_MO_reset 49 = .ok (.getfield 91, 3) := by decide +kernel
theorem d_MO_reset_52 : decode b_MO_reset 52 = .ok (.bipush 42, 2) := by decide +kernel
theorem d_MO_reset_54 : decode b_MO_reset 54 = .ok (.if_icmp .ne 7, 3) := by decide +kernel
theorem d_MO_reset_57 : decode b_MO_reset 57 = .ok (.iconst 1, 1) := by decide +kernel
theorem d_MO_reset_58 : decode b_MO_reset 58 = .ok (.goto 4, 3) := by decide +kernel
theorem d_MO_reset_61 : decode b_MO_reset 61 = .ok (.iconst 0, 1) := by decide +kernel
theorem d_MO_reset_62 : decode b_MO_reset 62 = .ok (.if_icmp .eq 7, 3) := by decide +kernel
theorem d_MO_reset_65 : decode b_MO_reset 65 = .ok (.iconst 1, 1) := by decide +kernel
theorem d_MO_reset_66 : decode b_MO_reset 66 = .ok (.goto 4, 3) := by decide +kernel
theorem d_MO_reset_69 : decode b_MO_reset 69 = .ok (.iconst 0, 1) := by decide +kernel
theorem d_MO_reset_70 : decode b_MO_reset 70 = .ok (.istore_n 3, 1) := by decide +kernel
theorem d_MO_reset_71 : decode b_MO_reset 71 = .ok (.aload_n 0, 1) := by decide +kernel
theorem d_MO_reset_72 : decode b_MO_reset 72 = .ok (.aload_n 0, 1) := by decide +kernel
theorem d_MO_reset_73 : decode b_MO_reset 73 = .ok (.getfield 33, 3) := by decide +kernel
theorem d_MO_reset_76 : decode b_MO_reset 76 = .ok (.aload_n 0, 1) := by decide +kernel
theorem d_MO_reset_77 : decode b_MO_reset 77 = .ok (.getfield 85, 3) := by decide +kernel
theorem d_MO_reset_80 : decode b_MO_reset 80 = .ok (.iload_n 2, 1) := by decide +kernel
theorem d_MO_reset_81 : decode b_MO_reset 81 = .ok (.iload_n 1, 1) := by decide +kernel
theorem d_MO_reset_82 : decode b_MO_reset 82 = .ok (.invokevirtual 94, 3) := by decide +kernel
theorem d_MO_reset_85 : decode b_MO_reset 85 = .ok (.aload_n 0, 1) := by decide +kernel
theorem d_MO_reset_86 : decode b_MO_reset 86 = .ok (.iload_n 1, 1) := by decide +kernel
theorem d_MO_reset_87 : decode b_MO_reset 87 = .ok (.iload_n 3, 1) := by decide +kernel
theorem d_MO_reset_88 : decode b_MO_reset 88 = .ok (.ifCond .eq 8, 3) := by decide +kernel
theorem d_MO_reset_91 : decode b_MO_reset 91 = .ok (.bipush 32, 2) := by decide +kernel
theorem d_MO_reset_93 : decode b_MO_reset 93 = .ok (.goto 5, 3) := by decide +kernel
theorem d_MO_reset_96 : decode b_MO_reset 96 = .ok (.bipush 48, 2) := by decide +kernel
theorem d_MO_reset_98 : decode b_MO_reset 98 = .ok (.invokevirtual 102, 3) := by decide +kernel
theorem d_MO_reset_101 : decode b_MO_reset 101 = .ok (.aload_n 0, 1) := by decide +kernel
theorem d_MO_reset_102 : decode b_MO_reset 102 = .ok (.dup, 1) := by decide +kernel
theorem d_MO_reset_103 : decode b_MO_reset 103 = .ok (.getfield 85, 3) := by decide +kernel
theorem d_MO_reset_106 : decode b_MO_reset 106 = .ok (.iload_n 2, 1) := by decide +kernel
theorem d_MO_reset_107 : decode b_MO_reset 107 = .ok (.isub, 1) := by decide +kernel
theorem d_MO_reset_108 : decode b_MO_reset 108 = .ok (.putfield 85, 3) := by decide +kernel
theorem d_MO_reset_111 : decode b_MO_reset 111 = .ok (.aload_n 0, 1) := by decide +kernel
theorem d_MO_reset_112 : decode b_MO_reset 112 = .ok (.dup, 1) := by decide +kernel
theorem d_MO_reset_113 : decode b_MO_reset 113 = .ok (.getfield 75, 3) := by decide +kernel
theorem d_MO_reset_116 : decode b_MO_reset 116 = .ok (.iload_n 1, 1) := by decide +kernel
theorem d_MO_reset_117 : decode b_MO_reset 117 = .ok (.isub, 1) := by decide +kernel
theorem d_MO_reset_118 : decode b_MO_reset 118 = .ok (.putfield 75, 3) := by decide +kernel
theorem d_MO_reset_121 : decode b_MO_reset 121 = .ok (.iconst 0, 1) := by decide +kernel
theorem d_MO_reset_122 : decode b_MO_reset 122 = .ok (.ireturn, 1) := by decide +kernel
theorem d_MO_both_0 : decode b_MO_both 0 = .ok (.iconst 0, 1) := by decide +kernel
theorem d_MO_both_1 : decode b_MO_both 1 = .ok (.istore_n 1, 1) := by decide +kernel
theorem d_MO_both_2 : decode b_MO_both 2 = .ok (.iconst 1, 1) := by decide +kernel
theorem d_MO_both_3 : decode b_MO_both 3 = .ok (.istore_n 2, 1) := by decide +kernel
theorem d_MO_both_4 : decode b_MO_both 4 = .ok (.iload_n 2, 1) := by decide +kernel
theorem d_MO_both_5 : decode b_MO_both 5 = .ok (.ifCond .eq 71, 3) := by decide +kernel
theorem d_MO_both_8 : decode b_MO_both 8 = .ok (.aload_n 0, 1) := by decide +kernel
theorem d_MO_both_9 : decode b_MO_both 9 = .ok (.aload_n 0, 1) := by decide +kernel
theorem d_MO_both_10 : decode b_MO_both 10 = .ok (.getfield 85, 3) := by decide +kernel
theorem d_MO_both_13 : decode b_MO_both 13 = .ok (.iload_n 1, 1) := by decide +kernel
theorem d_MO_both_14 : decode b_MO_both 14 = .ok (.isub, 1) := by decide +kernel
theorem d_MO_both_15 : decode b_MO_both 15 = .ok (.invokevirtual 46, 3) := by decide +kernel
theorem d_MO_both_18 : decode b_MO_both 18 = .ok (.ifCond .eq 16, 3) := by decide +kernel
theorem d_MO_both_21 : decode b_MO_both 21 = .ok (.aload_n 0, 1) := by decide +kernel
theorem d_MO_both_22 : decode b_MO_both 22 = .ok (.aload_n 0, 1) := by decide +kernel
theorem d_MO_both_23 : decode b_MO_both 23 = .ok (.getfield 75, 3) := by decide +kernel
theorem d_MO_both_26 : decode b_MO_both 26 = .ok (.iload_n 1, 1) := by decide +kernel
theorem d_MO_both_27 : decode b_MO_both 27 = .ok (.isub, 1) := by decide +kernel
theorem d_MO_both_28 : decode b_MO_both 28 = .ok (.invokevirtual 46, 3) := by decide +kernel
theorem d_MO_both_31 : decode b_MO_both 31 = .ok (.ifCond .ne 5, 3) := by decide +kernel
theorem d_MO_both_34 : decode b_MO_both 34 = .ok (.iconst 0, 1) := by decide +kernel
theorem d_MO_both_35 : decode b_MO_both 35 = .ok (.ireturn, 1) := by decide +kernel
theorem d_MO_both_36 : decode b_MO_both 36 = .ok (.aload_n 0, 1) := by decide +kernel
theorem d_MO_both_37 : decode b_MO_both 37 = .ok (.getfield 13, 3) := by decide +kernel
theorem d_MO_both_40 : decode b_MO_both 40 = .ok (.aload_n 0, 1) := by decide +kernel
theorem d_MO_both_41 : decode b_MO_both 41 = .ok (.getfield 85, 3) := by decide +kernel
theorem d_MO_both_44 : decode b_MO_both 44 = .ok (.iload_n 1, 1) := by decide +kernel
theorem d_MO_both_45 : decode b_MO_both 45 = .ok (.isub, 1) := by decide +kernel
theorem d_MO_both_46 : decode b_MO_both 46 = .ok (.baload, 1) := by decide +kernel
theorem d_MO_both_47 : decode b_MO_both 47 = .ok (.ifCond .ne 21, 3) := by decide +kernel
theorem d_MO_both_50 : decode b_MO_both 50 = .ok (.aload_n 0, 1) := by decide +kernel
theorem d_MO_both_51 : decode b_MO_both 51 = .ok (.getfield 13, 3) := by decide +kernel
theorem d_MO_both_54 : decode b_MO_both 54 = .ok (.aload_n 0, 1) := by decide +kernel
theorem d_MO_both_55 : decode b_MO_both 55 = .ok (.getfield 75, 3) := by decide +kernel
theorem d_MO_both_58 : decode b_MO_both 58 = .ok (.iload_n 1, 1) := by decide +kernel
theorem d_MO_both_59 : decode b_MO_both 59 = .ok (.isub, 1) := by decide +kernel
theorem d_MO_both_60 : decode b_MO_both 60 = .ok (.baload, 1) := by decide +kernel
theorem d_MO_both_61 : decode b_MO_both 61 = .ok (.ifCond .ne 7, 3) := by decide +kernel
theorem d_MO_both_64 : decode b_MO_both 64 = .ok (.iconst 1, 1) := by decide +kernel
theorem d_MO_both_65 : decode b_MO_both 65 = .ok (.goto 4, 3) := by decide +kernel
theorem d_MO_both_68 : decode b_MO_both 68 = .ok (.iconst 0, 1) := by decide +kernel
theorem d_MO_both_69 : decode b_MO_both 69 = .ok (.istore_n 2, 1) := by decide +kernel
theorem d_MO_both_70 : decode b_MO_both 70 = .ok (.iinc 1 1, 3) := by decide +kernel
theorem d_MO_both_73 : decode b_MO_both 73 = .ok (.goto (-69), 3) := by decide +kernel
theorem d_MO_both_76 : decode b_MO_both 76 = .ok (.iload_n 1, 1) := by decide +kernel
theorem d_MO_both_77 : decode b_MO_both 77 = .ok (.ireturn, 1) := by decide +kernel
theorem d_MO_move_0 : decode b_MO_move 0 = .ok (.aload_n 0, 1) := by decide +kernel
theorem d_MO_move_1 : decode b_MO_move 1 = .ok (.invokevirtual 109, 3) := by decide +kernel
theorem d_MO_move_4 : decode b_MO_move 4 = .ok (.istore_n 1, 1) := by decide +kernel
theorem d_MO_move_5 : decode b_MO_move 5 = .ok (.iload_n 1, 1) := by decide +kernel
theorem d_MO_move_6 : decode b_MO_move 6 = .ok (.ifCond .ne 5, 3) := by decide +kernel
theorem d_MO_move_9 : decode b_MO_move 9 = .ok (.iconst 2, 1) := by decide +kernel
theorem d_MO_move_10 : decode b_MO_move 10 = .ok (.ireturn, 1) := by decide +kernel
theorem d_MO_move_11 : decode b_MO_move 11 = .ok (.iconst 0, 1) := by decide +kernel
theorem d_MO_move_12 : decode b_MO_move 12 = .ok (.istore_n 2, 1) := by decide +kernel
theorem d_MO_move_13 : decode b_MO_move 13 = .ok (.iload_n 2, 1) := by decide +kernel
theorem d_MO_move_14 : decode b_MO_move 14 = .ok (.iload_n 1, 1) := by decide +kernel
theorem d_MO_move_15 : decode b_MO_move 15 = .ok (.if_icmp .ge 31, 3) := by decide +kernel
theorem d_MO_move_18 : decode b_MO_move 18 = .ok (.aload_n 0, 1) := by decide +kernel
theorem d_MO_move_19 : decode b_MO_move 19 = .ok (.getfield 7, 3) := by decide +kernel
theorem d_MO_move_22 : decode b_MO_move 22 = .ok (.aload_n 0, 1) := by decide +kernel
theorem d_MO_move_23 : decode b_MO_move 23 = .ok (.getfield 75, 3) := by decide +kernel
theorem d_MO_move_26 : decode b_MO_move 26 = .ok (.iload_n 2, 1) := by decide +kernel
theorem d_MO_move_27 : decode b_MO_move 27 = .ok (.isub, 1) := by decide +kernel
theorem d_MO_move_28 : decode b_MO_move 28 = .ok (.aload_n 0, 1) := by decide +kernel
theorem d_MO_move_29 : decode b_MO_move 29 = .ok (.getfield 7, 3) := by decide +kernel
theorem d_MO_move_32 : decode b_MO_move 32 = .ok (.aload_n 0, 1) := by decide +kernel
theorem d_MO_move_33 : decode b_MO_move 33 = .ok (.getfield 85, 3) := by decide +kernel
theorem d_MO_move_36 : decode b_MO_move 36 = .ok (.iload_n 2, 1) := by decide +kernel
theorem d_MO_move_37 : decode b_MO_move 37 = .ok (.isub, 1) := by decide +kernel
theorem d_MO_move_38 : decode b_MO_move 38 = .ok (.baload, 1) := by decide +kernel
theorem d_MO_move_39 : decode b_MO_move 39 = .ok (.bastore, 1) := by decide +kernel
theorem d_MO_move_40 : decode b_MO_move 40 = .ok (.iinc 2 1, 3) := by decide +kernel
theorem d_MO_move_43 : decode b_MO_move 43 = .ok (.goto (-30), 3) := by decide +kernel
theorem d_MO_move_46 : decode b_MO_move 46 = .ok (.aload_n 0, 1) := by decide +kernel
theorem d_MO_move_47 : decode b_MO_move 47 = .ok (.dup, 1) := by decide +kernel
theorem d_MO_move_48 : decode b_MO_move 48 = .ok (.getfield 85, 3) := by decide +kernel
theorem d_MO_move_51 : decode b_MO_move 51 = .ok (.iload_n 1, 1) := by decide +kernel
theorem d_MO_move_52 : decode b_MO_move 52 = .ok (.isub, 1) := by decide +kernel
theorem d_MO_move_53 : decode b_MO_move 53 = .ok (.putfield 85, 3) := by decide +kernel
theorem d_MO_move_56 : decode b_MO_move 56 = .ok (.aload_n 0, 1) := by decide +kernel
theorem d_MO_move_57 : decode b_MO_move 57 = .ok (.dup, 1) := by decide +kernel
theorem d_MO_move_58 : decode b_MO_move 58 = .ok (.getfield 75, 3) := by decide +kernel
theorem d_MO_move_61 : decode b_MO_move 61 = .ok (.iload_n 1, 1) := by decide +kernel
theorem d_MO_move_62 : decode b_MO_move 62 = .ok (.isub, 1) := by decide +kernel
theorem d_MO_move_63 : decode b_MO_move 63 = .ok (.putfield 75, 3) := by decide +kernel
theorem d_MO_move_66 : decode b_MO_move 66 = .ok (.iconst 0, 1) := by decide +kernel
theorem d_MO_move_67 : decode b_MO_move 67 = .ok (.ireturn, 1) := by decide +kernel
theorem d_MO_load_0 : decode b_MO_load 0 = .ok (.aload_n 0, 1) := by decide +kernel
theorem d_MO_load_1 : decode b_MO_load 1 = .ok (.aload_n 0, 1) := by decide +kernel
theorem d_MO_load_2 : decode b_MO_load 2 = .ok (.getfield 85, 3) := by decide +kernel
theorem d_MO_load_5 : decode b_MO_load 5 = .ok (.sipush 3000, 3) := by decide +kernel
theorem d_MO_load_8 : decode b_MO_load 8 = .ok (.invokevirtual 81, 3) := by decide +kernel
theorem d_MO_load_11 : decode b_MO_load 11 = .ok (.istore_n 1, 1) := by decide +kernel
theorem d_MO_load_12 : decode b_MO_load 12 = .ok (.iload_n 1, 1) := by decide +kernel
theorem d_MO_load_13 : decode b_MO_load 13 = .ok (.ifCond .eq 29, 3) := by decide +kernel
theorem d_MO_load_16 : decode b_MO_load 16 = .ok (.aload_n 0, 1) := by decide +kernel
theorem d_MO_load_17 : decode b_MO_load 17 = .ok (.aload_n 0, 1) := by decide +kernel
theorem d_MO_load_18 : decode b_MO_load 18 = .ok (.getfield 75, 3) := by decide +kernel
theorem d_MO_load_21 : decode b_MO_load 21 = .ok (.invokevirtual 46, 3) := by decide +kernel
theorem d_MO_load_24 : decode b_MO_load 24 = .ok (.ifCond .eq 18, 3) := by decide +kernel
theorem d_MO_load_27 : decode b_MO_load 27 = .ok (.aload_n 0, 1) := by decide +kernel
theorem d_MO_load_28 : decode b_MO_load 28 = .ok (.aload_n 0, 1) := by decide +kernel
theorem d_MO_load_29 : decode b_MO_load 29 = .ok (.getfield 75, 3) := by decide +kernel
theorem d_MO_load_32 : decode b_MO_load 32 = .ok (.iload_n 1, 1) := by decide +kernel
theorem d_MO_load_33 : decode b_MO_load 33 = .ok (.isub, 1) := by decide +kernel
theorem d_MO_load_34 : decode b_MO_load 34 = .ok (.iconst 1, 1) := by decide +kernel
theorem d_MO_load_35 : decode b_MO_load 35 = .ok (.iadd, 1) := by decide +kernel
theorem d_MO_load_36 : decode b_MO_load 36 = .ok (.invokevirtual 46, 3) := by decide +kernel
theorem d_MO_load_39 : decode b_MO_load 39 = .ok (.ifCond .ne 5, 3) := by decide +kernel
theorem d_MO_load_42 : decode b_MO_load 42 = .ok (.iconst 2, 1) := by decide +kernel
theorem d_MO_load_43 : decode b_MO_load 43 = .ok (.ireturn, 1) := by decide +kernel
theorem d_MO_load_44 : decode b_MO_load 44 = .ok (.iconst 0, 1) := by decide +kernel
theorem d_MO_load_45 : decode b_MO_load 45 = .ok (.istore_n 2, 1) := by decide +kernel
theorem d_MO_load_46 : decode b_MO_load 46 = .ok (.iload_n 2, 1) := by decide +kernel
theorem d_MO_load_47 : decode b_MO_load 47 = .ok (.iload_n 1, 1) := by decide +kernel
theorem d_MO_load_48 : decode b_MO_load 48 = .ok (.if_icmp .ge 26, 3) := by decide +kernel
theorem d_MO_load_51 : decode b_MO_load 51 = .ok (.aload_n 0, 1) := by decide +kernel
theorem d_MO_load_52 : decode b_MO_load 52 = .ok (.getfield 36, 3) := by decide +kernel
theorem d_MO_load_55 : decode b_MO_load 55 = .ok (.iload_n 2, 1) := by decide +kernel
theorem d_MO_load_56 : decode b_MO_load 56 = .ok (.aload_n 0, 1) := by decide +kernel
theorem d_MO_load_57 : decode b_MO_load 57 = .ok (.getfield 7, 3) := by decide +kernel
theorem d_MO_load_60 : decode b_MO_load 60 = .ok (.aload_n 0, 1) := by decide +kernel
theorem d_MO_load_61 : decode b_MO_load 61 = .ok (.getfield 85, 3) := by decide +kernel
theorem d_MO_load_64 : decode b_MO_load 64 = .ok (.iload_n 2, 1) := by decide +kernel
theorem d_MO_load_65 : decode b_MO_load 65 = .ok (.isub, 1) := by decide +kernel
theorem d_MO_load_66 : decode b_MO_load 66 = .ok (.baload, 1) := by decide +kernel
theorem d_MO_load_67 : decode b_MO_load 67 = .ok (.bastore, 1) := by decide +kernel
theorem d_MO_load_68 : decode b_MO_load 68 = .ok (.iinc 2 1, 3) := by decide +kernel
theorem d_MO_load_71 : decode b_MO_load 71 = .ok (.goto (-25), 3) := by decide +kernel
theorem d_MO_load_74 : decode b_MO_load 74 = .ok (.iconst 0, 1) := by decide +kernel
theorem d_MO_load_75 : decode b_MO_load 75 = .ok (.istore_n 2, 1) := by decide +kernel
theorem d_MO_load_76 : decode b_MO_load 76 = .ok (.iload_n 2, 1) := by decide +kernel
theorem d_MO_load_77 : decode b_MO_load 77 = .ok (.iload_n 1, 1) := by decide +kernel
theorem d_MO_load_78 : decode b_MO_load 78 = .ok (.if_icmp .ge 49, 3) := by decide +kernel
theorem d_MO_load_81 : decode b_MO_load 81 = .ok (.aload_n 0, 1) := by decide +kernel
theorem d_MO_load_82 : decode b_MO_load 82 = .ok (.getfield 7, 3) := by decide +kernel
theorem d_MO_load_85 : decode b_MO_load 85 = .ok (.aload_n 0, 1) := by decide +kernel
theorem d_MO_load_86 : decode b_MO_load 86 = .ok (.getfield 75, 3) := by decide +kernel
theorem d_MO_load_89 : decode b_MO_load 89 = .ok (.iload_n 2, 1) := by decide +kernel
theorem d_MO_load_90 : decode b_MO_load 90 = .ok (.isub, 1) := by decide +kernel
theorem d_MO_load_91 : decode b_MO_load 91 = .ok (.aload_n 0, 1) := by decide +kernel
theorem d_MO_load_92 : decode b_MO_load 92 = .ok (.getfield 36, 3) := by decide +kernel
theorem d_MO_load_95 : decode b_MO_load 95 = .ok (.iload_n 2, 1) := by decide +kernel
theorem d_MO_load_96 : decode b_MO_load 96 = .ok (.baload, 1) := by decide +kernel
theorem d_MO_load_97 : decode b_MO_load 97 = .ok (.bastore, 1) := by decide +kernel
theorem d_MO_load_98 : decode b_MO_load 98 = .ok (.aload_n 0, 1) := by decide +kernel
theorem d_MO_load_99 : decode b_MO_load 99 = .ok (.getfield 13, 3) := by decide +kernel
theorem d_MO_load_102 : decode b_MO_load 102 = .ok (.aload_n 0, 1) := by decide +kernel
theorem d_MO_load_103 : decode b_MO_load 103 = .ok (.getfield 75, 3) := by decide +kernel
theorem d_MO_load_106 : decode b_MO_load 106 = .ok (.iload_n 2, 1) := by decide +kernel
theorem d_MO_load_107 : decode b_MO_load 107 = .ok (.isub, 1) := by decide +kernel
theorem d_MO_load_108 : decode b_MO_load 108 = .ok (.iload_n 2, 1) := by decide +kernel
theorem d_MO_load_109 : decode b_MO_load 109 = .ok (.iload_n 1, 1) := by decide +kernel
theorem d_MO_load_110 : decode b_MO_load 110 = .ok (.iconst 1, 1) := by decide +kernel
theorem d_MO_load_111 : decode b_MO_load 111 = .ok (.isub, 1) := by decide +kernel
theorem d_MO_load_112 : decode b_MO_load 112 = .ok (.if_icmp .ne 7, 3) := by decide +kernel
theorem d_MO_load_115 : decode b_MO_load 115 = .ok (.iconst 1, 1) := by decide +kernel
theorem d_MO_load_116 : decode b_MO_load 116 = .ok (.goto 4, 3) := by decide +kernel
theorem d_MO_load_119 : decode b_MO_load 119 = .ok (.iconst 0, 1) := by decide +kernel
theorem d_MO_load_120 : decode b_MO_load 120 = .ok (.bastore, 1) := by decide +kernel
theorem d_MO_load_121 : decode b_MO_load 121 = .ok (.iinc 2 1, 3) := by decide +kernel
theorem d_MO_load_124 : decode b_MO_load 124 = .ok (.goto (-48), 3) := by decide +kernel
theorem d_MO_load_127 : decode b_MO_load 127 = .ok (.aload_n 0, 1) := by decide +kernel
theorem d_MO_load_128 : decode b_MO_load 128 = .ok (.dup, 1) := by decide +kernel
theorem d_MO_load_129 : decode b_MO_load 129 = .ok (.getfield 85, 3) := by decide +kernel
theorem d_MO_load_132 : decode b_MO_load 132 = .ok (.iload_n 1, 1) := by decide +kernel
theorem d_MO_load_133 : decode b_MO_load 133 = .ok (.isub, 1) := by decide +kernel
theorem d_MO_load_134 : decode b_MO_load 134 = .ok (.putfield 85, 3) := by decide +kernel
theorem d_MO_load_137 : decode b_MO_load 137 = .ok (.aload_n 0, 1) := by decide +kernel
theorem d_MO_load_138 : decode b_MO_load 138 = .ok (.dup, 1) := by decide +kernel
theorem d_MO_load_139 : decode b_MO_load 139 = .ok (.getfield 75, 3) := by decide +kernel
theorem d_MO_load_142 : decode b_MO_load 142 = .ok (.iload_n 1, 1) := by decide +kernel
theorem d_MO_load_143 : decode b_MO_load 143 = .ok (.isub, 1) := by decide +kernel
theorem d_MO_load_144 : decode b_MO_load 144 = .ok (.putfield 75, 3) := by decide +kernel
theorem d_MO_load_147 : decode b_MO_load 147 = .ok (.iconst 0, 1) := by decide +kernel
theorem d_MO_load_148 : decode b_MO_load 148 = .ok (.ireturn, 1) := by decide +kernel
theorem d_MO_part_0 : decode b_MO_part 0 = .ok (.aload_n 0, 1) := by decide +kernel
theorem d_MO_part_1 : decode b_MO_part 1 = .ok (.aload_n 0, 1) := by decide +kernel
theorem d_MO_part_2 : decode b_MO_part 2 = .ok (.getfield 85, 3) := by decide +kernel
theorem d_MO_part_5 : decode b_MO_part 5 = .ok (.invokevirtual 46, 3) := by decide +kernel
theorem d_MO_part_8 : decode b_MO_part 8 = .ok (.ifCond .eq 14, 3) := by decide +kernel
theorem d_MO_part_11 : decode b_MO_part 11 = .ok (.aload_n 0, 1) := by decide +kernel
theorem d_MO_part_12 : decode b_MO_part 12 = .ok (.aload_n 0, 1) := by decide +kernel
theorem d_MO_part_13 : decode b_MO_part 13 = .ok (.getfield 75, 3) := by decide +kernel
theorem d_MO_part_16 : decode b_MO_part 16 = .ok (.invokevirtual 46, 3) := by decide +kernel
theorem d_MO_part_19 : decode b_MO_part 19 = .ok (.ifCond .ne 5, 3) := by decide +kernel
theorem d_MO_part_22 : decode b_MO_part 22 = .ok (.iconst 2, 1) := by decide +kernel
theorem d_MO_part_23 : decode b_MO_part 23 = .ok (.ireturn, 1) := by decide +kernel
theorem d_MO_part_24 : decode b_MO_part 24 = .ok (.aload_n 0, 1) := by decide +kernel
theorem d_MO_part_25 : decode b_MO_part 25 = .ok (.getfield 91, 3) := by decide +kernel
theorem d_MO_part_28 : decode b_MO_part 28 = .ok (.bipush 52, 2) := by decide +kernel
theorem d_MO_part_30 : decode b_MO_part 30 = .ok (.if_icmp .ne 8, 3) := by decide +kernel
theorem d_MO_part_33 : decode b_MO_part 33 = .ok (.bipush 48, 2) := by decide +kernel
theorem d_MO_part_35 : decode b_MO_part 35 = .ok (.goto 5, 3) := by decide +kernel
theorem d_MO_part_38 : decode b_MO_part 38 = .ok (.bipush 15, 2) := by decide +kernel
theorem d_MO_part_40 : decode b_MO_part 40 = .ok (.istore_n 1, 1) := by decide +kernel
theorem d_MO_part_41 : decode b_MO_part 41 = .ok (.aload_n 0, 1) := by decide +kernel
theorem d_MO_part_42 : decode b_MO_part 42 = .ok (.getfield 7, 3) := by decide +kernel
theorem d_MO_part_45 : decode b_MO_part 45 = .ok (.aload_n 0, 1) := by decide +kernel
theorem d_MO_part_46 : decode b_MO_part 46 = .ok (.getfield 75, 3) := by decide +kernel
theorem d_MO_part_49 : decode b_MO_part 49 = .ok (.aload_n 0, 1) := by decide +kernel
theorem d_MO_part_50 : decode b_MO_part 50 = .ok (.getfield 7, 3) := by decide +kernel
theorem d_MO_part_53 : decode b_MO_part 53 = .ok (.aload_n 0, 1) := by decide +kernel
theorem d_MO_part_54 : decode b_MO_part 54 = .ok (.getfield 75, 3) := by decide +kernel
theorem d_MO_part_57 : decode b_MO_part 57 = .ok (.baload, 1) := by decide +kernel
theorem d_MO_part_58 : decode b_MO_part 58 = .ok (.iload_n 1, 1) := by decide +kernel
theorem d_MO_part_59 : decode b_MO_part 59 = .ok (.iand, 1) := by decide +kernel
theorem d_MO_part_60 : decode b_MO_part 60 = .ok (.aload_n 0, 1) := by decide +kernel
theorem d_MO_part_61 : decode b_MO_part 61 = .ok (.getfield 7, 3) := by decide +kernel
theorem d_MO_part_64 : decode b_MO_part 64 = .ok (.aload_n 0, 1) := by decide +kernel
theorem d_MO_part_65 : decode b_MO_part 65 = .ok (.getfield 85, 3) := by decide +kernel
theorem d_MO_part_68 : decode b_MO_part 68 = .ok (.baload, 1) := by decide +kernel
theorem d_MO_part_69 : decode b_MO_part 69 = .ok (.bipush 63, 2) := by decide +kernel
theorem d_MO_part_71 : decode b_MO_part 71 = .ok (.iload_n 1, 1) := by decide +kernel
theorem d_MO_part_72 : decode b_MO_part 72 = .ok (.isub, 1) := by decide +kernel
theorem d_MO_part_73 : decode b_MO_part 73 = .ok (.iand, 1) := by decide +kernel
theorem d_MO_part_74 : decode b_MO_part 74 = .ok (.ior, 1) := by decide +kernel
theorem d_MO_part_75 : decode b_MO_part 75 = .ok (.i2b, 1) := by decide +kernel
theorem d_MO_part_76 : decode b_MO_part 76 = .ok (.bastore, 1) := by decide +kernel
theorem d_MO_part_77 : decode b_MO_part 77 = .ok (.aload_n 0, 1) := by decide +kernel
theorem d_MO_part_78 : decode b_MO_part 78 = .ok (.dup, 1) := by decide +kernel
theorem d_MO_part_79 : decode b_MO_part 79 = .ok (.getfield 85, 3) := by decide +kernel
theorem d_MO_part_82 : decode b_MO_part 82 = .ok (.iconst 1, 1) := by decide +kernel
theorem d_MO_part_83 : decode b_MO_part 83 = .ok (.isub, 1) := by decide +kernel
theorem d_MO_part_84 : decode b_MO_part 84 = .ok (.putfield 85, 3) := by decide +kernel
theorem d_MO_part_87 : decode b_MO_part 87 = .ok (.aload_n 0, 1) := by decide +kernel
theorem d_MO_part_88 : decode b_MO_part 88 = .ok (.dup, 1) := by decide +kernel
theorem d_MO_part_89 : decode b_MO_part 89 = .ok (.getfield 75, 3) := by decide +kernel
theorem d_MO_part_92 : decode b_MO_part 92 = .ok (.iconst 1, 1) := by decide +kernel
theorem d_MO_part_93 : decode b_MO_part 93 = .ok (.isub, 1) := by decide +kernel
theorem d_MO_part_94 : decode b_MO_part 94 = .ok (.putfield 75, 3) := by decide +kernel
theorem d_MO_part_97 : decode b_MO_part 97 = .ok (.iconst 0, 1) := by decide +kernel
theorem d_MO_part_98 : decode b_MO_part 98 = .ok (.ireturn, 1) := by decide +kernel
theorem d_MO_rank_0 : decode b_MO_rank 0 = .ok (.iload_n 0, 1) := by decide +kernel
theorem d_MO_rank_1 : decode b_MO_rank 1 = .ok (.bipush 15, 2) := by decide +kernel
theorem d_MO_rank_3 : decode b_MO_rank 3 = .ok (.iand, 1) := by decide +kernel
theorem d_MO_rank_4 : decode b_MO_rank 4 = .ok (.istore_n 1, 1) := by decide +kernel
theorem d_MO_rank_5 : decode b_MO_rank 5 = .ok (.iload_n 1, 1) := by decide +kernel
theorem d_MO_rank_6 : decode b_MO_rank 6 = .ok (.ifCond .eq 9, 3) := by decide +kernel
theorem d_MO_rank_9 : decode b_MO_rank 9 = .ok (.iload_n 1, 1) := by decide +kernel
theorem d_MO_rank_10 : decode b_MO_rank 10 = .ok (.bipush 10, 2) := by decide +kernel
theorem d_MO_rank_12 : decode b_MO_rank 12 = .ok (.if_icmp .le 7, 3) := by decide +kernel
theorem d_MO_rank_15 : decode b_MO_rank 15 = .ok (.iconst 1, 1) := by decide +kernel
theorem d_MO_rank_16 : decode b_MO_rank 16 = .ok (.goto 4, 3) := by decide +kernel
theorem d_MO_rank_19 : decode b_MO_rank 19 = .ok (.iconst 0, 1) := by decide +kernel
theorem d_MO_rank_20 : decode b_MO_rank 20 = .ok (.istore_n 2, 1) := by decide +kernel
theorem d_MO_rank_21 : decode b_MO_rank 21 = .ok (.iconst 3, 1) := by decide +kernel
theorem d_MO_rank_22 : decode b_MO_rank 22 = .ok (.iload_n 0, 1) := by decide +kernel
theorem d_MO_rank_23 : decode b_MO_rank 23 = .ok (.iconst 4, 1) := by decide +kernel
theorem d_MO_rank_24 : decode b_MO_rank 24 = .ok (.ishr, 1) := by decide +kernel
theorem d_MO_rank_25 : decode b_MO_rank 25 = .ok (.isub, 1) := by decide +kernel
theorem d_MO_rank_26 : decode b_MO_rank 26 = .ok (.istore_n 3, 1) := by decide +kernel
theorem d_MO_rank_27 : decode b_MO_rank 27 = .ok (.iload_n 2, 1) := by decide +kernel
theorem d_MO_rank_28 : decode b_MO_rank 28 = .ok (.ifCond .eq 12, 3) := by decide +kernel
theorem d_MO_rank_31 : decode b_MO_rank 31 = .ok (.bipush 16, 2) := by decide +kernel
theorem d_MO_rank_33 : decode b_MO_rank 33 = .ok (.iload_n 3, 1) := by decide +kernel
theorem d_MO_rank_34 : decode b_MO_rank 34 = .ok (.imul, 1) := by decide +kernel
theorem d_MO_rank_35 : decode b_MO_rank 35 = .ok (.iload_n 1, 1) := by decide +kernel
theorem d_MO_rank_36 : decode b_MO_rank 36 = .ok (.iadd, 1) := by decide +kernel
theorem d_MO_rank_37 : decode b_MO_rank 37 = .ok (.goto 22, 3) := by decide +kernel
theorem d_MO_rank_40 : decode b_MO_rank 40 = .ok (.bipush 64, 2) := by decide +kernel
theorem d_MO_rank_42 : decode b_MO_rank 42 = .ok (.bipush 16, 2) := by decide +kernel
theorem d_MO_rank_44 : decode b_MO_rank 44 = .ok (.iload_n 3, 1) := by decide +kernel
theorem d_MO_rank_45 : decode b_MO_rank 45 = .ok (.imul, 1) := by decide +kernel
theorem d_MO_rank_46 : decode b_MO_rank 46 = .ok (.iadd, 1) := by decide +kernel
theorem d_MO_rank_47 : decode b_MO_rank 47 = .ok (.iload_n 1, 1) := by decide +kernel
theorem d_MO_rank_48 : decode b_MO_rank 48 = .ok (.bipush 10, 2) := by decide +kernel
theorem d_MO_rank_50 : decode b_MO_rank 50 = .ok (.if_icmp .ne 7, 3) := by decide +kernel
theorem d_MO_rank_53 : decode b_MO_rank 53 = .ok (.iconst 0, 1) := by decide +kernel
theorem d_MO_rank_54 : decode b_MO_rank 54 = .ok (.goto 4, 3) := by decide +kernel
theorem d_MO_rank_57 : decode b_MO_rank 57 = .ok (.iload_n 1, 1) := by decide +kernel
theorem d_MO_rank_58 : decode b_MO_rank 58 = .ok (.iadd, 1) := by decide +kernel
theorem d_MO_rank_59 : decode b_MO_rank 59 = .ok (.ireturn, 1) := by decide +kernel
theorem d_MO_compare_0 : decode b_MO_compare 0 = .ok (.aload_n 0, 1) := by decide +kernel
theorem d_MO_compare_1 : decode b_MO_compare 1 = .ok (.invokevirtual 109, 3) := by decide +kernel
theorem d_MO_compare_4 : decode b_MO_compare 4 = .ok (.istore_n 1, 1) := by decide +kernel
theorem d_MO_compare_5 : decode b_MO_compare 5 = .ok (.iload_n 1, 1) := by decide +kernel
theorem d_MO_compare_6 : decode b_MO_compare 6 = .ok (.ifCond .ne 5, 3) := by decide +kernel
theorem d_MO_compare_9 : decode b_MO_compare 9 = .ok (.iconst 2, 1) := by decide +kernel
theorem d_MO_compare_10 : decode b_MO_compare 10 = .ok (.ireturn, 1) := by decide +kernel
theorem d_MO_compare_11 : decode b_MO_compare 11 = .ok (.aload_n 0, 1) := by decide +kernel
theorem d_MO_compare_12 : decode b_MO_compare 12 = .ok (.iconst 0, 1) := by decide +kernel
theorem d_MO_compare_13 : decode b_MO_compare 13 = .ok (.putfield 113, 3) := by decide +kernel
theorem d_MO_compare_16 : decode b_MO_compare 16 = .ok (.iconst 0, 1) := by decide +kernel
theorem d_MO_compare_17 : decode b_MO_compare 17 = .ok (.istore_n 2, 1) := by decide +kernel
theorem d_MO_compare_18 : decode b_MO_compare 18 = .ok (.iload_n 2, 1) := by decide +kernel
theorem d_MO_compare_19 : decode b_MO_compare 19 = .ok (.iload_n 1, 1) := by decide +kernel
theorem d_MO_compare_20 : decode b_MO_compare 20 = .ok (.if_icmp .ge 68, 3) := by decide +kernel
theorem d_MO_compare_23 : decode b_MO_compare 23 = .ok (.aload_n 0, 1) := by decide +kernel
theorem d_MO_compare_24 : decode b_MO_compare 24 = .ok (.getfield 7, 3) := by decide +kernel
theorem d_MO_compare_27 : decode b_MO_compare 27 = .ok (.aload_n 0, 1) := by decide +kernel
theorem d_MO_compare_28 : decode b_MO_compare 28 = .ok (.getfield 85, 3) := by decide +kernel
theorem d_MO_compare_31 : decode b_MO_compare 31 = .ok (.iload_n 2, 1) := by decide +kernel
theorem d_MO_compare_32 : decode b_MO_compare 32 = .ok (.isub, 1) := by decide +kernel
theorem d_MO_compare_33 : decode b_MO_compare 33 = .ok (.baload, 1) := by decide +kernel
theorem d_MO_compare_34 : decode b_MO_compare 34 = .ok (.invokestatic 116, 3) := by decide +kernel
theorem d_MO_compare_37 : decode b_MO_compare 37 = .ok (.istore_n 3, 1) := by decide +kernel
theorem d_MO_compare_38 : decode b_MO_compare 38 = .ok (.aload_n 0, 1) := by decide +kernel
theorem d_MO_compare_39 : decode b_MO_compare 39 = .ok (.getfield 7, 3) := by decide +kernel
theorem d_MO_compare_42 : decode b_MO_compare 42 = .ok (.aload_n 0, 1) := by decide +kernel
theorem d_MO_compare_43 : decode b_MO_compare 43 = .ok (.getfield 75, 3) := by decide +kernel
theorem d_MO_compare_46 : decode b_MO_compare 46 = .ok (.iload_n 2, 1) := by decide +kernel
theorem d_MO_compare_47 : decode b_MO_compare 47 = .ok (.isub, 1) := by decide +kernel
theorem d_MO_compare_48 : decode b_MO_compare 48 = .ok (.baload, 1) := by decide +kernel
theorem d_MO_compare_49 : decode b_MO_compare 49 = .ok (.invokestatic 116, 3) := by decide +kernel
theorem d_MO_compare_52 : decode b_MO_compare 52 = .ok (.istore 4, 2) := by decide +kernel
theorem d_MO_compare_54 : decode b_MO_compare 54 = .ok (.aload_n 0, 1) := by decide +kernel
theorem d_MO_compare_55 : decode b_MO_compare 55 = .ok (.iload_n 3, 1) := by decide +kernel
theorem d_MO_compare_56 : decode b_MO_compare 56 = .ok (.iload 4, 2) := by decide +kernel
theorem d_MO_compare_58 : decode b_MO_compare 58 = .ok (.if_icmp .ne 10, 3) := by decide +kernel
theorem d_MO_compare_61 : decode b_MO_compare 61 = .ok (.aload_n 0, 1) := by decide +kernel
theorem d_MO_compare_62 : decode b_MO_compare 62 = .ok (.getfield 113, 3) := by decide +kernel
theorem d_MO_compare_65 : decode b_MO_compare 65 = .ok (.goto 14, 3) := by decide +kernel
theorem d_MO_compare_68 : decode b_MO_compare 68 = .ok (.iload 4, 2) := by decide +kernel
theorem d_MO_compare_70 : decode b_MO_compare 70 = .ok (.iload_n 3, 1) := by decide +kernel
theorem d_MO_compare_71 : decode b_MO_compare 71 = .ok (.if_icmp .le 7, 3) := by decide +kernel
theorem d_MO_compare_74 : decode b_MO_compare 74 = .ok (.iconst 1, 1) := by decide +kernel
theorem d_MO_compare_75 : decode b_MO_compare 75 = .ok (.goto 4, 3) := by decide +kernel
theorem d_MO_compare_78 : decode b_MO_compare 78 = .ok (.iconst (-1), 1) := by decide +kernel
theorem d_MO_compare_79 : decode b_MO_compare 79 = .ok (.putfield 113, 3) := by decide +kernel
theorem d_MO_compare_82 : decode b_MO_compare 82 = .ok (.iinc 2 1, 3) := by decide +kernel
theorem d_MO_compare_85 : decode b_MO_compare 85 = .ok (.goto (-67), 3) := by decide +kernel
theorem d_MO_compare_88 : decode b_MO_compare 88 = .ok (.aload_n 0, 1) := by decide +kernel
theorem d_MO_compare_89 : decode b_MO_compare 89 = .ok (.aload_n 0, 1) := by decide +kernel
theorem d_MO_compare_90 : decode b_MO_compare 90 = .ok (.getfield 13, 3) := by decide +kernel
theorem d_MO_compare_93 : decode b_MO_compare 93 = .ok (.aload_n 0, 1) := by decide +kernel
theorem d_MO_compare_94 : decode b_MO_compare 94 = .ok (.getfield 75, 3) := by decide +kernel
theorem d_MO_compare_97 : decode b_MO_compare 97 = .ok (.iload_n 1, 1) := by decide +kernel
theorem d_MO_compare_98 : decode b_MO_compare 98 = .ok (.isub, 1) := by decide +kernel
theorem d_MO_compare_99 : decode b_MO_compare 99 = .ok (.iconst 1, 1) := by decide +kernel
theorem d_MO_compare_100 : decode b_MO_compare 100 = .ok (.iadd, 1) := by decide +kernel
theorem d_MO_compare_101 : decode b_MO_compare 101 = .ok (.baload, 1) := by decide +kernel
theorem d_MO_compare_102 : decode b_MO_compare 102 = .ok (.ifCond .eq 10, 3) := by decide +kernel
theorem d_MO_compare_105 : decode b_MO_compare 105 = .ok (.aload_n 0, 1) := by decide +kernel
theorem d_MO_compare_106 : decode b_MO_compare 106 = .ok (.getfield 113, 3) := by decide +kernel
theorem d_MO_compare_109 : decode b_MO_compare 109 = .ok (.goto 4, 3) := by decide +kernel
theorem d_MO_compare_112 : decode b_MO_compare 112 = .ok (.iconst 1, 1) := by decide +kernel
theorem d_MO_compare_113 : decode b_MO_compare 113 = .ok (.putfield 113, 3) := by decide +kernel
theorem d_MO_compare_116 : decode b_MO_compare 116 = .ok (.aload_n 0, 1) := by decide +kernel
theorem d_MO_compare_117 : decode b_MO_compare 117 = .ok (.dup, 1) := by decide +kernel
theorem d_MO_compare_118 : decode b_MO_compare 118 = .ok (.getfield 85, 3) := by decide +kernel
theorem d_MO_compare_121 : decode b_MO_compare 121 = .ok (.iload_n 1, 1) := by decide +kernel
theorem d_MO_compare_122 : decode b_MO_compare 122 = .ok (.isub, 1) := by decide +kernel
theorem d_MO_compare_123 : decode b_MO_compare 123 = .ok (.putfield 85, 3) := by decide +kernel
theorem d_MO_compare_126 : decode b_MO_compare 126 = .ok (.aload_n 0, 1) := by decide +kernel
theorem d_MO_compare_127 : decode b_MO_compare 127 = .ok (.dup, 1) := by decide +kernel
theorem d_MO_compare_128 : decode b_MO_compare 128 = .ok (.getfield 75, 3) := by decide +kernel
theorem d_MO_compare_131 : decode b_MO_compare 131 = .ok (.iload_n 1, 1) := by decide +kernel
theorem d_MO_compare_132 : decode b_MO_compare 132 = .ok (.isub, 1) := by decide +kernel
theorem d_MO_compare_133 : decode b_MO_compare 133 = .ok (.putfield 75, 3) := by decide +kernel
theorem d_MO_compare_136 : decode b_MO_compare 136 = .ok (.iconst 0, 1) := by decide +kernel
theorem d_MO_compare_137 : decode b_MO_compare 137 = .ok (.ireturn, 1) := by decide +kernel
theorem d_MO_marks_0 : decode b_MO_marks 0 = .ok (.aload_n 0, 1) := by decide +kernel
theorem d_MO_marks_1 : decode b_MO_marks 1 = .ok (.aload_n 0, 1) := by decide +kernel
theorem d_MO_marks_2 : decode b_MO_marks 2 = .ok (.getfield 85, 3) := by decide +kernel
theorem d_MO_marks_5 : decode b_MO_marks 5 = .ok (.invokevirtual 46, 3) := by decide +kernel
theorem d_MO_marks_8 : decode b_MO_marks 8 = .ok (.ifCond .eq 14, 3) := by decide +kernel
theorem d_MO_marks_11 : decode b_MO_marks 11 = .ok (.aload_n 0, 1) := by decide +kernel
theorem d_MO_marks_12 : decode b_MO_marks 12 = .ok (.aload_n 0, 1) := by decide +kernel
theorem d_MO_marks_13 : decode b_MO_marks 13 = .ok (.getfield 75, 3) := by decide +kernel
theorem d_MO_marks_16 : decode b_MO_marks 16 = .ok (.invokevirtual 46, 3) := by decide +kernel
theorem d_MO_marks_19 : decode b_MO_marks 19 = .ok (.ifCond .ne 5, 3) := by decide +kernel
theorem d_MO_marks_22 : decode b_MO_marks 22 = .ok (.iconst 2, 1) := by decide +kernel
theorem d_MO_marks_23 : decode b_MO_marks 23 = .ok (.ireturn, 1) := by decide +kernel
theorem d_MO_marks_24 : decode b_MO_marks 24 = .ok (.aload_n 0, 1) := by decide +kernel
theorem d_MO_marks_25 : decode b_MO_marks 25 = .ok (.getfield 13, 3) := by decide +kernel
theorem d_MO_marks_28 : decode b_MO_marks 28 = .ok (.aload_n 0, 1) := by decide +kernel
theorem d_MO_marks_29 : decode b_MO_marks 29 = .ok (.getfield 85, 3) := by decide +kernel
theorem d_MO_marks_32 : decode b_MO_marks 32 = .ok (.aload_n 0, 1) := by decide +kernel
theorem d_MO_marks_33 : decode b_MO_marks 33 = .ok (.getfield 91, 3) := by decide +kernel
theorem d_MO_marks_36 : decode b_MO_marks 36 = .ok (.bipush 27, 2) := by decide +kernel
theorem d_MO_marks_38 : decode b_MO_marks 38 = .ok (.if_icmp .ne 7, 3) := by decide +kernel
theorem d_MO_marks_41 : decode b_MO_marks 41 = .ok (.iconst 1, 1) := by decide +kernel
theorem d_MO_marks_42 : decode b_MO_marks 42 = .ok (.goto 4, 3) := by decide +kernel
theorem d_MO_marks_45 : decode b_MO_marks 45 = .ok (.iconst 0, 1) := by decide +kernel
theorem d_MO_marks_46 : decode b_MO_marks 46 = .ok (.bastore, 1) := by decide +kernel
theorem d_MO_marks_47 : decode b_MO_marks 47 = .ok (.aload_n 0, 1) := by decide +kernel
theorem d_MO_marks_48 : decode b_MO_marks 48 = .ok (.getfield 13, 3) := by decide +kernel
theorem d_MO_marks_51 : decode b_MO_marks 51 = .ok (.aload_n 0, 1) := by decide +kernel
theorem d_MO_marks_52 : decode b_MO_marks 52 = .ok (.getfield 75, 3) := by decide +kernel
theorem d_MO_marks_55 : decode b_MO_marks 55 = .ok (.aload_n 0, 1) := by decide +kernel
theorem d_MO_marks_56 : decode b_MO_marks 56 = .ok (.getfield 91, 3) := by decide +kernel
theorem d_MO_marks_59 : decode b_MO_marks 59 = .ok (.bipush 27, 2) := by decide +kernel
theorem d_MO_marks_61 : decode b_MO_marks 61 = .ok (.if_icmp .ne 7, 3) := by decide +kernel
theorem d_MO_marks_64 : decode b_MO_marks 64 = .ok (.iconst 1, 1) := by decide +kernel
theorem d_MO_marks_65 : decode b_MO_marks 65 = .ok (.goto 4, 3) := by decide +kernel
theorem d_MO_marks_68 : decode b_MO_marks 68 = .ok (.iconst 0, 1) := by decide +kernel
theorem d_MO_marks_69 : decode b_MO_marks 69 = .ok (.bastore, 1) := by decide +kernel
theorem d_MO_marks_70 : decode b_MO_marks 70 = .ok (.aload_n 0, 1) := by decide +kernel
theorem d_MO_marks_71 : decode b_MO_marks 71 = .ok (.dup, 1) := by decide +kernel
theorem d_MO_marks_72 : decode b_MO_marks 72 = .ok (.getfield 85, 3) := by decide +kernel
theorem d_MO_marks_75 : decode b_MO_marks 75 = .ok (.iconst 1, 1) := by decide +kernel
theorem d_MO_marks_76 : decode b_MO_marks 76 = .ok (.isub, 1) := by decide +kernel
theorem d_MO_marks_77 : decode b_MO_marks 77 = .ok (.putfield 85, 3) := by decide +kernel
theorem d_MO_marks_80 : decode b_MO_marks 80 = .ok (.aload_n 0, 1) := by decide +kernel
theorem d_MO_marks_81 : decode b_MO_marks 81 = .ok (.dup, 1) := by decide +kernel
theorem d_MO_marks_82 : decode b_MO_marks 82 = .ok (.getfield 75, 3) := by decide +kernel
theorem d_MO_marks_85 : decode b_MO_marks 85 = .ok (.iconst 1, 1) := by decide +kernel
theorem d_MO_marks_86 : decode b_MO_marks 86 = .ok (.isub, 1) := by decide +kernel
theorem d_MO_marks_87 : decode b_MO_marks 87 = .ok (.putfield 75, 3) := by decide +kernel
theorem d_MO_marks_90 : decode b_MO_marks 90 = .ok (.iconst 0, 1) := by decide +kernel
theorem d_MO_marks_91 : decode b_MO_marks 91 = .ok (.ireturn, 1) := by decide +kernel
theorem d_MO_go_0 : decode b_MO_go 0 = .ok (.aload_n 0, 1) := by decide +kernel
theorem d_MO_go_1 : decode b_MO_go 1 = .ok (.getfield 85, 3) := by decide +kernel
theorem d_MO_go_4 : decode b_MO_go 4 = .ok (.istore_n 1, 1) := by decide +kernel
theorem d_MO_go_5 : decode b_MO_go 5 = .ok (.aload_n 0, 1) := by decide +kernel
theorem d_MO_go_6 : decode b_MO_go 6 = .ok (.aload_n 0, 1) := by decide +kernel
theorem d_MO_go_7 : decode b_MO_go 7 = .ok (.getfield 65, 3) := by decide +kernel
theorem d_MO_go_10 : decode b_MO_go 10 = .ok (.putfield 85, 3) := by decide +kernel
theorem d_MO_go_13 : decode b_MO_go 13 = .ok (.aload_n 0, 1) := by decide +kernel
theorem d_MO_go_14 : decode b_MO_go 14 = .ok (.iload_n 1, 1) := by decide +kernel
theorem d_MO_go_15 : decode b_MO_go 15 = .ok (.putfield 65, 3) := by decide +kernel
theorem d_MO_go_18 : decode b_MO_go 18 = .ok (.return_, 1) := by decide +kernel
theorem d_MO_clear_0 : decode b_MO_clear 0 = .ok (.aload_n 0, 1) := by decide +kernel
theorem d_MO_clear_1 : decode b_MO_clear 1 = .ok (.aload_n 0, 1) := by decide +kernel
theorem d_MO_clear_2 : decode b_MO_clear 2 = .ok (.getfield 75, 3) := by decide +kernel
theorem d_MO_clear_5 : decode b_MO_clear 5 = .ok (.invokevirtual 46, 3) := by decide +kernel
theorem d_MO_clear_8 : decode b_MO_clear 8 = .ok (.ifCond .ne 5, 3) := by decide +kernel
theorem d_MO_clear_11 : decode b_MO_clear 11 = .ok (.iconst 2, 1) := by decide +kernel
theorem d_MO_clear_12 : decode b_MO_clear 12 = .ok (.ireturn, 1) := by decide +kernel
theorem d_MO_clear_13 : decode b_MO_clear 13 = .ok (.aload_n 0, 1) := by decide +kernel
theorem d_MO_clear_14 : decode b_MO_clear 14 = .ok (.getfield 75, 3) := by decide +kernel
theorem d_MO_clear_17 : decode b_MO_clear 17 = .ok (.bipush 100, 2) := by decide +kernel
theorem d_MO_clear_19 : decode b_MO_clear 19 = .ok (.idiv, 1) := by decide +kernel
theorem d_MO_clear_20 : decode b_MO_clear 20 = .ok (.bipush 100, 2) := by decide +kernel
theorem d_MO_clear_22 : decode b_MO_clear 22 = .ok (.imul, 1) := by decide +kernel
theorem d_MO_clear_23 : decode b_MO_clear 23 = .ok (.istore_n 1, 1) := by decide +kernel
theorem d_MO_clear_24 : decode b_MO_clear 24 = .ok (.iload_n 1, 1) := by decide +kernel
theorem d_MO_clear_25 : decode b_MO_clear 25 = .ok (.istore_n 2, 1) := by decide +kernel
theorem d_MO_clear_26 : decode b_MO_clear 26 = .ok (.iload_n 2, 1) := by decide +kernel
theorem d_MO_clear_27 : decode b_MO_clear 27 = .ok (.aload_n 0, 1) := by decide +kernel
theorem d_MO_clear_28 : decode b_MO_clear 28 = .ok (.getfield 75, 3) := by decide +kernel
theorem d_MO_clear_31 : decode b_MO_clear 31 = .ok (.if_icmp .gt 23, 3) := by decide +kernel
theorem d_MO_clear_34 : decode b_MO_clear 34 = .ok (.aload_n 0, 1) := by decide +kernel
theorem d_MO_clear_35 : decode b_MO_clear 35 = .ok (.getfield 7, 3) := by decide +kernel
theorem d_MO_clear_38 : decode b_MO_clear 38 = .ok (.iload_n 2, 1) := by decide +kernel
theorem d_MO_clear_39 : decode b_MO_clear 39 = .ok (.iconst 0, 1) := by decide +kernel
theorem d_MO_clear_40 : decode b_MO_clear 40 = .ok (.bastore, 1) := by decide +kernel
theorem d_MO_clear_41 : decode b_MO_clear 41 = .ok (.aload_n 0, 1) := by decide +kernel
theorem d_MO_clear_42 : decode b_MO_clear 42 = .ok (.getfield 13, 3) := by decide +kernel
theorem d_MO_clear_45 : decode b_MO_clear 45 = .ok (.iload_n 2, 1) := by decide +kernel
theorem d_MO_clear_46 : decode b_MO_clear 46 = .ok (.iconst 0, 1) := by decide +kernel
theorem d_MO_clear_47 : decode b_MO_clear 47 = .ok (.bastore, 1) := by decide +kernel
theorem d_MO_clear_48 : decode b_MO_clear 48 = .ok (.iinc 2 1, 3) := by decide +kernel
theorem d_MO_clear_51 : decode b_MO_clear 51 = .ok (.goto (-25), 3) := by decide +kernel
theorem d_MO_clear_54 : decode b_MO_clear 54 = .ok (.aload_n 0, 1) := by decide +kernel
theorem d_MO_clear_55 : decode b_MO_clear 55 = .ok (.iload_n 1, 1) := by decide +kernel
theorem d_MO_clear_56 : decode b_MO_clear 56 = .ok (.iconst 1, 1) := by decide +kernel
theorem d_MO_clear_57 : decode b_MO_clear 57 = .ok (.isub, 1) := by decide +kernel
theorem d_MO_clear_58 : decode b_MO_clear 58 = .ok (.putfield 75, 3) := by decide +kernel
theorem d_MO_clear_61 : decode b_MO_clear 61 = .ok (.aload_n 0, 1) := by decide +kernel
theorem d_MO_clear_62 : decode b_MO_clear 62 = .ok (.getfield 119, 3) := by decide +kernel
theorem d_MO_clear_65 : decode b_MO_clear 65 = .ok (.bipush 7, 2) := by decide +kernel
theorem d_MO_clear_67 : decode b_MO_clear 67 = .ok (.if_icmp .ne 7, 3) := by decide +kernel
theorem d_MO_clear_70 : decode b_MO_clear 70 = .ok (.aload_n 0, 1) := by decide +kernel
theorem d_MO_clear_71 : decode b_MO_clear 71 = .ok (.invokevirtual 122, 3) := by decide +kernel
theorem d_MO_clear_74 : decode b_MO_clear 74 = .ok (.iconst 0, 1) := by decide +kernel
theorem d_MO_clear_75 : decode b_MO_clear 75 = .ok (.ireturn, 1) := by decide +kernel
theorem d_MO_edit_0 : decode b_MO_edit 0 = .ok (.aload_n 0, 1) := by decide +kernel
theorem d_MO_edit_1 : decode b_MO_edit 1 = .ok (.aload_n 0, 1) := by decide +kernel
theorem d_MO_edit_2 : decode b_MO_edit 2 = .ok (.getfield 85, 3) := by decide +kernel
theorem d_MO_edit_5 : decode b_MO_edit 5 = .ok (.sipush 3000, 3) := by decide +kernel
theorem d_MO_edit_8 : decode b_MO_edit 8 = .ok (.invokevirtual 81, 3) := by decide +kernel
theorem d_MO_edit_11 : decode b_MO_edit 11 = .ok (.istore_n 1, 1) := by decide +kernel
theorem d_MO_edit_12 : decode b_MO_edit 12 = .ok (.iload_n 1, 1) := by decide +kernel
theorem d_MO_edit_13 : decode b_MO_edit 13 = .ok (.ifCond .eq 29, 3) := by decide +kernel
theorem d_MO_edit_16 : decode b_MO_edit 16 = .ok (.aload_n 0, 1) := by decide +kernel
theorem d_MO_edit_17 : decode b_MO_edit 17 = .ok (.aload_n 0, 1) := by decide +kernel
theorem d_MO_edit_18 : decode b_MO_edit 18 = .ok (.getfield 75, 3) := by decide +kernel
theorem d_MO_edit_21 : decode b_MO_edit 21 = .ok (.invokevirtual 46, 3) := by decide +kernel
theorem d_MO_edit_24 : decode b_MO_edit 24 = .ok (.ifCond .eq 18, 3) := by decide +kernel
theorem d_MO_edit_27 : decode b_MO_edit 27 = .ok (.aload_n 0, 1) := by decide +kernel
theorem d_MO_edit_28 : decode b_MO_edit 28 = .ok (.aload_n 0, 1) := by decide +kernel
theorem d_MO_edit_29 : decode b_MO_edit 29 = .ok (.getfield 75, 3) := by decide +kernel
theorem d_MO_edit_32 : decode b_MO_edit 32 = .ok (.iload_n 1, 1) := by decide +kernel
theorem d_MO_edit_33 : decode b_MO_edit 33 = .ok (.isub, 1) := by decide +kernel
theorem d_MO_edit_34 : decode b_MO_edit 34 = .ok (.iconst 1, 1) := by decide +kernel
theorem d_MO_edit_35 : decode b_MO_edit 35 = .ok (.iadd, 1) := by decide +kernel
theorem d_MO_edit_36 : decode b_MO_edit 36 = .ok (.invokevirtual 46, 3) := by decide +kernel
theorem d_MO_edit_39 : decode b_MO_edit 39 = .ok (.ifCond .ne 5, 3) := by decide +kernel
theorem d_MO_edit_42 : decode b_MO_edit 42 = .ok (.iconst 2, 1) := by decide +kernel
theorem d_MO_edit_43 : decode b_MO_edit 43 = .ok (.ireturn, 1) := by decide +kernel
theorem d_MO_edit_44 : decode b_MO_edit 44 = .ok (.iconst 0, 1) := by decide +kernel
theorem d_MO_edit_45 : decode b_MO_edit 45 = .ok (.istore_n 2, 1) := by decide +kernel
theorem d_MO_edit_46 : decode b_MO_edit 46 = .ok (.iload_n 2, 1) := by decide +kernel
theorem d_MO_edit_47 : decode b_MO_edit 47 = .ok (.iload_n 1, 1) := by decide +kernel
theorem d_MO_edit_48 : decode b_MO_edit 48 = .ok (.if_icmp .ge 51, 3) := by decide +kernel
theorem d_MO_edit_51 : decode b_MO_edit 51 = .ok (.aload_n 0, 1) := by decide +kernel
theorem d_MO_edit_52 : decode b_MO_edit 52 = .ok (.getfield 7, 3) := by decide +kernel
theorem d_MO_edit_55 : decode b_MO_edit 55 = .ok (.aload_n 0, 1) := by decide +kernel
theorem d_MO_edit_56 : decode b_MO_edit 56 = .ok (.getfield 75, 3) := by decide +kernel
theorem d_MO_edit_59 : decode b_MO_edit 59 = .ok (.iload_n 2, 1) := by decide +kernel
theorem d_MO_edit_60 : decode b_MO_edit 60 = .ok (.isub, 1) := by decide +kernel
theorem d_MO_edit_61 : decode b_MO_edit 61 = .ok (.iload_n 2, 1) := by decide +kernel
theorem d_MO_edit_62 : decode b_MO_edit 62 = .ok (.ifCond .ne 18, 3) := by decide +kernel
theorem d_MO_edit_65 : decode b_MO_edit 65 = .ok (.aload_n 0, 1) := by decide +kernel
theorem d_MO_edit_66 : decode b_MO_edit 66 = .ok (.getfield 7, 3) := by decide +kernel
theorem d_MO_edit_69 : decode b_MO_edit 69 = .ok (.aload_n 0, 1) := by decide +kernel
theorem d_MO_edit_70 : decode b_MO_edit 70 = .ok (.getfield 85, 3) := by decide +kernel
theorem d_MO_edit_73 : decode b_MO_edit 73 = .ok (.baload, 1) := by decide +kernel
theorem d_MO_edit_74 : decode b_MO_edit 74 = .ok (.bipush 15, 2) := by decide +kernel
theorem d_MO_edit_76 : decode b_MO_edit 76 = .ok (.iand, 1) := by decide +kernel
theorem d_MO_edit_77 : decode b_MO_edit 77 = .ok (.goto 14, 3) := by decide +kernel
theorem d_MO_edit_80 : decode b_MO_edit 80 = .ok (.aload_n 0, 1) := by decide +kernel
theorem d_MO_edit_81 : decode b_MO_edit 81 = .ok (.getfield 7, 3) := by decide +kernel
theorem d_MO_edit_84 : decode b_MO_edit 84 = .ok (.aload_n 0, 1) := by decide +kernel
theorem d_MO_edit_85 : decode b_MO_edit 85 = .ok (.getfield 85, 3) := by decide +kernel
theorem d_MO_edit_88 : decode b_MO_edit 88 = .ok (.iload_n 2, 1) := by decide +kernel
theorem d_MO_edit_89 : decode b_MO_edit 89 = .ok (.isub, 1) := by decide +kernel
theorem d_MO_edit_90 : decode b_MO_edit 90 = .ok (.baload, 1) := by decide +kernel
theorem d_MO_edit_91 : decode b_MO_edit 91 = .ok (.i2b, 1) := by decide +kernel
theorem d_MO_edit_92 : decode b_MO_edit 92 = .ok (.bastore, 1) := by decide +kernel
theorem d_MO_edit_93 : decode b_MO_edit 93 = .ok (.iinc 2 1, 3) := by decide +kernel
theorem d_MO_edit_96 : decode b_MO_edit 96 = .ok (.goto (-50), 3) := by decide +kernel
theorem d_MO_edit_99 : decode b_MO_edit 99 = .ok (.iconst 1, 1) := by decide +kernel
theorem d_MO_edit_100 : decode b_MO_edit 100 = .ok (.istore_n 2, 1) := by decide +kernel
theorem d_MO_edit_101 : decode b_MO_edit 101 = .ok (.aload_n 0, 1) := by decide +kernel
theorem d_MO_edit_102 : decode b_MO_edit 102 = .ok (.getfield 75, 3) := by decide +kernel
theorem d_MO_edit_105 : decode b_MO_edit 105 = .ok (.iload_n 1, 1) := by decide +kernel
theorem d_MO_edit_106 : decode b_MO_edit 106 = .ok (.isub, 1) := by decide +kernel
theorem d_MO_edit_107 : decode b_MO_edit 107 = .ok (.iconst 1, 1) := by decide +kernel
theorem d_MO_edit_108 : decode b_MO_edit 108 = .ok (.iadd, 1) := by decide +kernel
theorem d_MO_edit_109 : decode b_MO_edit 109 = .ok (.istore_n 3, 1) := by decide +kernel
theorem d_MO_edit_110 : decode b_MO_edit 110 = .ok (.iload_n 3, 1) := by decide +kernel
theorem d_MO_edit_111 : decode b_MO_edit 111 = .ok (.aload_n 0, 1) := by decide +kernel
theorem d_MO_edit_112 : decode b_MO_edit 112 = .ok (.getfield 75, 3) := by decide +kernel
theorem d_MO_edit_115 : decode b_MO_edit 115 = .ok (.if_icmp .gt 70, 3) := by decide +kernel
theorem d_MO_edit_118 : decode b_MO_edit 118 = .ok (.iload_n 2, 1) := by decide +kernel
theorem d_MO_edit_119 : decode b_MO_edit 119 = .ok (.ifCond .eq 38, 3) := by decide +kernel
theorem d_MO_edit_122 : decode b_MO_edit 122 = .ok (.aload_n 0, 1) := by decide +kernel
theorem d_MO_edit_123 : decode b_MO_edit 123 = .ok (.getfield 7, 3) := by decide +kernel
theorem d_MO_edit_126 : decode b_MO_edit 126 = .ok (.iload_n 3, 1) := by decide +kernel
theorem d_MO_edit_127 : decode b_MO_edit 127 = .ok (.baload, 1) := by decide +kernel
theorem d_MO_edit_128 : decode b_MO_edit 128 = .ok (.bipush 10, 2) := by decide +kernel
theorem d_MO_edit_130 : decode b_MO_edit 130 = .ok (.if_icmp .eq 23, 3) := by decide +kernel
theorem d_MO_edit_133 : decode b_MO_edit 133 = .ok (.aload_n 0, 1) := by decide +kernel
theorem d_MO_edit_134 : decode b_MO_edit 134 = .ok (.getfield 7, 3) := by decide +kernel
theorem d_MO_edit_137 : decode b_MO_edit 137 = .ok (.iload_n 3, 1) := by decide +kernel
theorem d_MO_edit_138 : decode b_MO_edit 138 = .ok (.baload, 1) := by decide +kernel
theorem d_MO_edit_139 : decode b_MO_edit 139 = .ok (.ifCond .eq 14, 3) := by decide +kernel
theorem d_MO_edit_142 : decode b_MO_edit 142 = .ok (.aload_n 0, 1) := by decide +kernel
theorem d_MO_edit_143 : decode b_MO_edit 143 = .ok (.getfield 7, 3) := by decide +kernel
theorem d_MO_edit_146 : decode b_MO_edit 146 = .ok (.iload_n 3, 1) := by decide +kernel
theorem d_MO_edit_147 : decode b_MO_edit 147 = .ok (.baload, 1) := by decide +kernel
theorem d_MO_edit_148 : decode b_MO_edit 148 = .ok (.bipush 27, 2) := by decide +kernel
theorem d_MO_edit_150 : decode b_MO_edit 150 = .ok (.if_icmp .ne 7, 3) := by decide +kernel
theorem d_MO_edit_153 : decode b_MO_edit 153 = .ok (.iconst 1, 1) := by decide +kernel
theorem d_MO_edit_154 : decode b_MO_edit 154 = .ok (.goto 4, 3) := by decide +kernel
theorem d_MO_edit_157 : decode b_MO_edit 157 = .ok (.iconst 0, 1) := by decide +kernel
theorem d_MO_edit_158 : decode b_MO_edit 158 = .ok (.istore_n 2, 1) := by decide +kernel
theorem d_MO_edit_159 : decode b_MO_edit 159 = .ok (.aload_n 0, 1) := by decide +kernel
theorem d_MO_edit_160 : decode b_MO_edit 160 = .ok (.getfield 7, 3) := by decide +kernel
theorem d_MO_edit_163 : decode b_MO_edit 163 = .ok (.iload_n 3, 1) := by decide +kernel
theorem d_MO_edit_164 : decode b_MO_edit 164 = .ok (.iload_n 2, 1) := by decide +kernel
theorem d_MO_edit_165 : decode b_MO_edit 165 = .ok (.ifCond .eq 7, 3) := by decide +kernel
theorem d_MO_edit_168 : decode b_MO_edit 168 = .ok (.iconst 0, 1) := by decide +kernel
theorem d_MO_edit_169 : decode b_MO_edit 169 = .ok (.goto 9, 3) := by decide +kernel
theorem d_MO_edit_172 : decode b_MO_edit 172 = .ok (.aload_n 0, 1) := by decide +kernel
theorem d_MO_edit_173 : decode b_MO_edit 173 = .ok (.getfield 7, 3) := by decide +kernel
theorem d_MO_edit_176 : decode b_MO_edit 176 = .ok (.iload_n 3, 1) := by decide +kernel
theorem d_MO_edit_177 : decode b_MO_edit 177 = .ok (.baload, 1) := by decide +kernel
theorem d_MO_edit_178 : decode b_MO_edit 178 = .ok (.bastore, 1) := by decide +kernel
theorem d_MO_edit_179 : decode b_MO_edit 179 = .ok (.iinc 3 1, 3) := by decide +kernel
theorem d_MO_edit_182 : decode b_MO_edit 182 = .ok (.goto (-72), 3) := by decide +kernel
theorem d_MO_edit_185 : decode b_MO_edit 185 = .ok (.aload_n 0, 1) := by decide +kernel
theorem d_MO_edit_186 : decode b_MO_edit 186 = .ok (.dup, 1) := by decide +kernel
theorem d_MO_edit_187 : decode b_MO_edit 187 = .ok (.getfield 85, 3) := by decide +kernel
theorem d_MO_edit_190 : decode b_MO_edit 190 = .ok (.iload_n 1, 1) := by decide +kernel
theorem d_MO_edit_191 : decode b_MO_edit 191 = .ok (.isub, 1) := by decide +kernel
theorem d_MO_edit_192 : decode b_MO_edit 192 = .ok (.putfield 85, 3) := by decide +kernel
theorem d_MO_edit_195 : decode b_MO_edit 195 = .ok (.aload_n 0, 1) := by decide +kernel
theorem d_MO_edit_196 : decode b_MO_edit 196 = .ok (.dup, 1) := by decide +kernel
theorem d_MO_edit_197 : decode b_MO_edit 197 = .ok (.getfield 75, 3) := by decide +kernel
theorem d_MO_edit_200 : decode b_MO_edit 200 = .ok (.iconst 1, 1) := by decide +kernel
theorem d_MO_edit_201 : decode b_MO_edit 201 = .ok (.iadd, 1) := by decide +kernel
theorem d_MO_edit_202 : decode b_MO_edit 202 = .ok (.putfield 75, 3) := by decide +kernel
theorem d_MO_edit_205 : decode b_MO_edit 205 = .ok (.iconst 0, 1) := by decide +kernel
theorem d_MO_edit_206 : decode b_MO_edit 206 = .ok (.ireturn, 1) := by decide +kernel
theorem d_MO_modifier_0 : decode b_MO_modifier 0 = .ok (.aload_n 0, 1) := by decide +kernel
theorem d_MO_modifier_1 : decode b_MO_modifier 1 = .ok (.getfield 7, 3) := by decide +kernel
theorem d_MO_modifier_4 : decode b_MO_modifier 4 = .ok (.aload_n 0, 1) := by decide +kernel
theorem d_MO_modifier_5 : decode b_MO_modifier 5 = .ok (.getfield 125, 3) := by decide +kernel
theorem d_MO_modifier_8 : decode b_MO_modifier 8 = .ok (.aload_n 0, 1) := by decide +kernel
theorem d_MO_modifier_9 : decode b_MO_modifier 9 = .ok (.getfield 119, 3) := by decide +kernel
theorem d_MO_modifier_12 : decode b_MO_modifier 12 = .ok (.iadd, 1) := by decide +kernel
theorem d_MO_modifier_13 : decode b_MO_modifier 13 = .ok (.iconst 1, 1) := by decide +kernel
theorem d_MO_modifier_14 : decode b_MO_modifier 14 = .ok (.isub, 1) := by decide +kernel
theorem d_MO_modifier_15 : decode b_MO_modifier 15 = .ok (.baload, 1) := by decide +kernel
theorem d_MO_modifier_16 : decode b_MO_modifier 16 = .ok (.ireturn, 1) := by decide +kernel
theorem d_MO_branch_0 : decode b_MO_branch 0 = .ok (.aload_n 0, 1) := by decide +kernel
theorem d_MO_branch_1 : decode b_MO_branch 1 = .ok (.getfield 119, 3) := by decide +kernel
theorem d_MO_branch_4 : decode b_MO_branch 4 = .ok (.iconst 5, 1) := by decide +kernel
theorem d_MO_branch_5 : decode b_MO_branch 5 = .ok (.if_icmp .ge 7, 3) := by decide +kernel
theorem d_MO_branch_8 : decode b_MO_branch 8 = .ok (.iconst 1, 1) := by decide +kernel
theorem d_MO_branch_9 : decode b_MO_branch 9 = .ok (.goto 4, 3) := by decide +kernel
theorem d_MO_branch_12 : decode b_MO_branch 12 = .ok (.iconst 0, 1) := by decide +kernel
theorem d_MO_branch_13 : decode b_MO_branch 13 = .ok (.istore_n 1, 1) := by decide +kernel
theorem d_MO_branch_14 : decode b_MO_branch 14 = .ok (.aload_n 0, 1) := by decide +kernel
theorem d_MO_branch_15 : decode b_MO_branch 15 = .ok (.getfield 119, 3) := by decide +kernel
theorem d_MO_branch_18 : decode b_MO_branch 18 = .ok (.iconst 5, 1) := by decide +kernel
theorem d_MO_branch_19 : decode b_MO_branch 19 = .ok (.if_icmp .eq 12, 3) := by decide +kernel
theorem d_MO_branch_22 : decode b_MO_branch 22 = .ok (.aload_n 0, 1) := by decide +kernel
theorem d_MO_branch_23 : decode b_MO_branch 23 = .ok (.getfield 119, 3) := by decide +kernel
theorem d_MO_branch_26 : decode b_MO_branch 26 = .ok (.bipush 8, 2) := by decide +kernel
theorem d_MO_branch_28 : decode b_MO_branch 28 = .ok (.if_icmp .ne 10, 3) := by decide +kernel
theorem d_MO_branch_31 : decode b_MO_branch 31 = .ok (.aload_n 0, 1) := by decide +kernel
theorem d_MO_branch_32 : decode b_MO_branch 32 = .ok (.invokevirtual 128, 3) := by decide +kernel
theorem d_MO_branch_35 : decode b_MO_branch 35 = .ok (.goto 4, 3) := by decide +kernel
theorem d_MO_branch_38 : decode b_MO_branch 38 = .ok (.iconst (-1), 1) := by decide +kernel
theorem d_MO_branch_39 : decode b_MO_branch 39 = .ok (.istore_n 2, 1) := by decide +kernel
theorem d_MO_branch_40 : decode b_MO_branch 40 = .ok (.aload_n 0, 1) := by decide +kernel
theorem d_MO_branch_41 : decode b_MO_branch 41 = .ok (.getfield 119, 3) := by decide +kernel
theorem d_MO_branch_44 : decode b_MO_branch 44 = .ok (.iconst 5, 1) := by decide +kernel
theorem d_MO_branch_45 : decode b_MO_branch 45 = .ok (.if_icmp .ne 113, 3) := by decide +kernel
theorem d_MO_branch_48 : decode b_MO_branch 48 = .ok (.iload_n 2, 1) := by decide +kernel
theorem d_MO_branch_49 : decode b_MO_branch 49 = .ok (.ifCond .eq 81, 3) := by decide +kernel
theorem d_MO_branch_52 : decode b_MO_branch 52 = .ok (.iload_n 2, 1) := by decide +kernel
theorem d_MO_branch_53 : decode b_MO_branch 53 = .ok (.bipush 17, 2) := by decide +kernel
theorem d_MO_branch_55 : decode b_MO_branch 55 = .ok (.if_icmp .ne 10, 3) := by decide +kernel
theorem d_MO_branch_58 : decode b_MO_branch 58 = .ok (.aload_n 0, 1) := by decide +kernel
theorem d_MO_branch_59 : decode b_MO_branch 59 = .ok (.getfield 113, 3) := by decide +kernel
theorem d_MO_branch_62 : decode b_MO_branch 62 = .ok (.ifCond .ne 68, 3) := by decide +kernel
theorem d_MO_branch_65 : decode b_MO_branch 65 = .ok (.iload_n 2, 1) := by decide +kernel
theorem d_MO_branch_66 : decode b_MO_branch 66 = .ok (.bipush 18, 2) := by decide +kernel
theorem d_MO_branch_68 : decode b_MO_branch 68 = .ok (.if_icmp .ne 10, 3) := by decide +kernel
theorem d_MO_branch_71 : decode b_MO_branch 71 = .ok (.aload_n 0, 1) := by decide +kernel
theorem d_MO_branch_72 : decode b_MO_branch 72 = .ok (.getfield 113, 3) := by decide +kernel
theorem d_MO_branch_75 : decode b_MO_branch 75 = .ok (.ifCond .eq 55, 3) := by decide +kernel
theorem d_MO_branch_78 : decode b_MO_branch 78 = .ok (.iload_n 2, 1) := by decide +kernel
theorem d_MO_branch_79 : decode b_MO_branch 79 = .ok (.bipush 19, 2) := by decide +kernel
theorem d_MO_branch_81 : decode b_MO_branch 81 = .ok (.if_icmp .ne 10, 3) := by decide +kernel
theorem d_MO_branch_84 : decode b_MO_branch 84 = .ok (.aload_n 0, 1) := by decide +kernel
theorem d_MO_branch_85 : decode b_MO_branch 85 = .ok (.getfield 113, 3) := by decide +kernel
theorem d_MO_branch_88 : decode b_MO_branch 88 = .ok (.ifCond .lt 42, 3) := by decide +kernel
theorem d_MO_branch_91 : decode b_MO_branch 91 = .ok (.iload_n 2, 1) := by decide +kernel
theorem d_MO_branch_92 : decode b_MO_branch 92 = .ok (.bipush 20, 2) := by decide +kernel
theorem d_MO_branch_94 : decode b_MO_branch 94 = .ok (.if_icmp .ne 10, 3) := by decide +kernel
theorem d_MO_branch_97 : decode b_MO_branch 97 = .ok (.aload_n 0, 1) := by decide +kernel
theorem d_MO_branch_98 : decode b_MO_branch 98 = .ok (.getfield 113, 3) := by decide +kernel
theorem d_MO_branch_101 : decode b_MO_branch 101 = .ok (.ifCond .gt 29, 3) := by decide +kernel
theorem d_MO_branch_104 : decode b_MO_branch 104 = .ok (.iload_n 2, 1) := by decide +kernel
theorem d_MO_branch_105 : decode b_MO_branch 105 = .ok (.bipush 25, 2) := by decide +kernel
theorem d_MO_branch_107 : decode b_MO_branch 107 = .ok (.if_icmp .ne 10, 3) := by decide +kernel
theorem d_MO_branch_110 : decode b_MO_branch 110 = .ok (.aload_n 0, 1) := by decide +kernel
theorem d_MO_branch_111 : decode b_MO_branch 111 = .ok (.getfield 98, 3) := by decide +kernel
theorem d_MO_branch_114 : decode b_MO_branch 114 = .ok (.ifCond .ne 16, 3) := by decide +kernel
theorem d_MO_branch_117 : decode b_MO_branch 117 = .ok (.iload_n 2, 1) := by decide +kernel
theorem d_MO_branch_118 : decode b_MO_branch 118 = .ok (.bipush 49, 2) := by decide +kernel
theorem d_MO_branch_120 : decode b_MO_branch 120 = .ok (.if_icmp .ne 14, 3) := by decide +kernel
theorem d_MO_branch_123 : decode b_MO_branch 123 = .ok (.aload_n 0, 1) := by decide +kernel
theorem d_MO_branch_124 : decode b_MO_branch 124 = .ok (.getfield 131, 3) := by decide +kernel
theorem d_MO_branch_127 : decode b_MO_branch 127 = .ok (.ifCond .eq 7, 3) := by decide +kernel
theorem d_MO_branch_130 : decode b_MO_branch 130 = .ok (.iconst 1, 1) := by decide +kernel
theorem d_MO_branch_131 : decode b_MO_branch 131 = .ok (.goto 4, 3) := by decide +kernel
theorem d_MO_branch_134 : decode b_MO_branch 134 = .ok (.iconst 0, 1) := by decide +kernel
theorem d_MO_branch_135 : decode b_MO_branch 135 = .ok (.istore_n 1, 1) := by decide +kernel
theorem d_MO_branch_136 : decode b_MO_branch 136 = .ok (.aload_n 0, 1) := by decide +kernel
theorem d_MO_branch_137 : decode b_MO_branch 137 = .ok (.aload_n 0, 1) := by decide +kernel
theorem d_MO_branch_138 : decode b_MO_branch 138 = .ok (.getfield 98, 3) := by decide +kernel
theorem d_MO_branch_141 : decode b_MO_branch 141 = .ok (.ifCond .eq 13, 3) := by decide +kernel
theorem d_MO_branch_144 : decode b_MO_branch 144 = .ok (.iload_n 2, 1) := by decide +kernel
theorem d_MO_branch_145 : decode b_MO_branch 145 = .ok (.bipush 25, 2) := by decide +kernel
theorem d_MO_branch_147 : decode b_MO_branch 147 = .ok (.if_icmp .eq 7, 3) := by decide +kernel
theorem d_MO_branch_150 : decode b_MO_branch 150 = .ok (.iconst 1, 1) := by decide +kernel
theorem d_MO_branch_151 : decode b_MO_branch 151 = .ok (.goto 4, 3) := by decide +kernel
theorem d_MO_branch_154 : decode b_MO_branch 154 = .ok (.iconst 0, 1) := by decide +kernel
theorem d_MO_branch_155 : decode b_MO_branch 155 = .ok (.putfield 98, 3) := by decide +kernel
theorem d_MO_branch_158 : decode b_MO_branch 158 = .ok (.aload_n 0, 1) := by decide +kernel
theorem d_MO_branch_159 : decode b_MO_branch 159 = .ok (.getfield 119, 3) := by decide +kernel
theorem d_MO_branch_162 : decode b_MO_branch 162 = .ok (.bipush 8, 2) := by decide +kernel
theorem d_MO_branch_164 : decode b_MO_branch 164 = .ok (.if_icmp .ne 45, 3) := by decide +kernel
theorem d_MO_branch_167 : decode b_MO_branch 167 = .ok (.aload_n 0, 1) := by decide +kernel
theorem d_MO_branch_168 : decode b_MO_branch 168 = .ok (.aload_n 0, 1) := by decide +kernel
theorem d_MO_branch_169 : decode b_MO_branch 169 = .ok (.getfield 75, 3) := by decide +kernel
theorem d_MO_branch_172 : decode b_MO_branch 172 = .ok (.invokevirtual 46, 3) := by decide +kernel
theorem d_MO_branch_175 : decode b_MO_branch 175 = .ok (.ifCond .ne 5, 3) := by decide +kernel
theorem d_MO_branch_178 : decode b_MO_branch 178 = .ok (.iconst 2, 1) := by decide +kernel
theorem d_MO_branch_179 : decode b_MO_branch 179 = .ok (.ireturn, 1) := by decide +kernel
theorem d_MO_branch_180 : decode b_MO_branch 180 = .ok (.aload_n 0, 1) := by decide +kernel
theorem d_MO_branch_181 : decode b_MO_branch 181 = .ok (.getfield 7, 3) := by decide +kernel
theorem d_MO_branch_184 : decode b_MO_branch 184 = .ok (.aload_n 0, 1) := by decide +kernel
theorem d_MO_branch_185 : decode b_MO_branch 185 = .ok (.getfield 75, 3) := by decide +kernel
theorem d_MO_branch_188 : decode b_MO_branch 188 = .ok (.baload, 1) := by decide +kernel
theorem d_MO_branch_189 : decode b_MO_branch 189 = .ok (.iload_n 2, 1) := by decide +kernel
theorem d_MO_branch_190 : decode b_MO_branch 190 = .ok (.if_icmp .ne 7, 3) := by decide +kernel
theorem d_MO_branch_193 : decode b_MO_branch 193 = .ok (.iconst 1, 1) := by decide +kernel
theorem d_MO_branch_194 : decode b_MO_branch 194 = .ok (.goto 4, 3) := by decide +kernel
theorem d_MO_branch_197 : decode b_MO_branch 197 = .ok (.iconst 0, 1) := by decide +kernel
theorem d_MO_branch_198 : decode b_MO_branch 198 = .ok (.istore_n 1, 1) := by decide +kernel
theorem d_MO_branch_199 : decode b_MO_branch 199 = .ok (.aload_n 0, 1) := by decide +kernel
theorem d_MO_branch_200 : decode b_MO_branch 200 = .ok (.dup, 1) := by decide +kernel
theorem d_MO_branch_201 : decode b_MO_branch 201 = .ok (.getfield 75, 3) := by decide +kernel
theorem d_MO_branch_204 : decode b_MO_branch 204 = .ok (.iconst 1, 1) := by decide +kernel
theorem d_MO_branch_205 : decode b_MO_branch 205 = .ok (.isub, 1) := by decide +kernel
theorem d_MO_branch_206 : decode b_MO_branch 206 = .ok (.putfield 75, 3) := by decide +kernel
theorem d_MO_branch_209 : decode b_MO_branch 209 = .ok (.iload_n 1, 1) := by decide +kernel
theorem d_MO_branch_210 : decode b_MO_branch 210 = .ok (.ifCond .eq 7, 3) := by decide +kernel
theorem d_MO_branch_213 : decode b_MO_branch 213 = .ok (.aload_n 0, 1) := by decide +kernel
theorem d_MO_branch_214 : decode b_MO_branch 214 = .ok (.invokevirtual 122, 3) := by decide +kernel
theorem d_MO_branch_217 : decode b_MO_branch 217 = .ok (.iconst 0, 1) := by decide +kernel
theorem d_MO_branch_218 : decode b_MO_branch 218 = .ok (.ireturn, 1) := by decide +kernel
theorem d_MO_branchMark_0 : decode b_MO_branchMark 0 = .ok (.aload_n 0, 1) := by decide +kernel
theorem d_MO_branchMark_1 : decode b_MO_branchMark 1 = .ok (.aload_n 0, 1) := by decide +kernel
theorem d_MO_branchMark_2 : decode b_MO_branchMark 2 = .ok (.getfield 75, 3) := by decide +kernel
theorem d_MO_branchMark_5 : decode b_MO_branchMark 5 = .ok (.invokevirtual 46, 3) := by decide +kernel
theorem d_MO_branchMark_8 : decode b_MO_branchMark 8 = .ok (.ifCond .ne 5, 3) := by decide +kernel
theorem d_MO_branchMark_11 : decode b_MO_branchMark 11 = .ok (.iconst 2, 1) := by decide +kernel
theorem d_MO_branchMark_12 : decode b_MO_branchMark 12 = .ok (.ireturn, 1) := by decide +kernel
theorem d_MO_branchMark_13 : decode b_MO_branchMark 13 = .ok (.aload_n 0, 1) := by decide +kernel
theorem d_MO_branchMark_14 : decode b_MO_branchMark 14 = .ok (.invokevirtual 128, 3) := by decide +kernel
theorem d_MO_branchMark_17 : decode b_MO_branchMark 17 = .ok (.istore_n 1, 1) := by decide +kernel
theorem d_MO_branchMark_18 : decode b_MO_branchMark 18 = .ok (.iload_n 1, 1) := by decide +kernel
theorem d_MO_branchMark_19 : decode b_MO_branchMark 19 = .ok (.iconst 1, 1) := by decide +kernel
theorem d_MO_branchMark_20 : decode b_MO_branchMark 20 = .ok (.if_icmp .eq 26, 3) := by decide +kernel
theorem d_MO_branchMark_23 : decode b_MO_branchMark 23 = .ok (.iload_n 1, 1) := by decide +kernel
theorem d_MO_branchMark_24 : decode b_MO_branchMark 24 = .ok (.iconst 3, 1) := by decide +kernel
theorem d_MO_branchMark_25 : decode b_MO_branchMark 25 = .ok (.if_icmp .eq 21, 3) := by decide +kernel
theorem d_MO_branchMark_28 : decode b_MO_branchMark 28 = .ok (.iload_n 1, 1) := by decide +kernel
theorem d_MO_branchMark_29 : decode b_MO_branchMark 29 = .ok (.bipush 51, 2) := by decide +kernel
theorem d_MO_branchMark_31 : decode b_MO_branchMark 31 = .ok (.if_icmp .eq 15, 3) := by decide +kernel
theorem d_MO_branchMark_34 : decode b_MO_branchMark 34 = .ok (.iload_n 1, 1) := by decide +kernel
theorem d_MO_branchMark_35 : decode b_MO_branchMark 35 = .ok (.bipush 35, 2) := by decide +kernel
theorem d_MO_branchMark_37 : decode b_MO_branchMark 37 = .ok (.if_icmp .eq 9, 3) := by decide +kernel
theorem d_MO_branchMark_40 : decode b_MO_branchMark 40 = .ok (.iload_n 1, 1) := by decide +kernel
theorem d_MO_branchMark_41 : decode b_MO_branchMark 41 = .ok (.bipush 19, 2) := by decide +kernel
theorem d_MO_branchMark_43 : decode b_MO_branchMark 43 = .ok (.if_icmp .ne 7, 3) := by decide +kernel
theorem d_MO_branchMark_46 : decode b_MO_branchMark 46 = .ok (.iconst 1, 1) := by decide +kernel
theorem d_MO_branchMark_47 : decode b_MO_branchMark 47 = .ok (.goto 4, 3) := by decide +kernel
theorem d_MO_branchMark_50 : decode b_MO_branchMark 50 = .ok (.iconst 0, 1) := by decide +kernel
theorem d_MO_branchMark_51 : decode b_MO_branchMark 51 = .ok (.istore_n 2, 1) := by decide +kernel
theorem d_MO_branchMark_52 : decode b_MO_branchMark 52 = .ok (.iload_n 1, 1) := by decide +kernel
theorem d_MO_branchMark_53 : decode b_MO_branchMark 53 = .ok (.iconst 2, 1) := by decide +kernel
theorem d_MO_branchMark_54 : decode b_MO_branchMark 54 = .ok (.if_icmp .eq 44, 3) := by decide +kernel
theorem d_MO_branchMark_57 : decode b_MO_branchMark 57 = .ok (.iload_n 1, 1) := by decide +kernel
theorem d_MO_branchMark_58 : decode b_MO_branchMark 58 = .ok (.bipush 50, 2) := by decide +kernel
theorem d_MO_branchMark_60 : decode b_MO_branchMark 60 = .ok (.if_icmp .eq 38, 3) := by decide +kernel
theorem d_MO_branchMark_63 : decode b_MO_branchMark 63 = .ok (.iload_n 1, 1) := by decide +kernel
theorem d_MO_branchMark_64 : decode b_MO_branchMark 64 = .ok (.bipush 34, 2) := by decide +kernel
theorem d_MO_branchMark_66 : decode b_MO_branchMark 66 = .ok (.if_icmp .eq 32, 3) := by decide +kernel
theorem d_MO_branchMark_69 : decode b_MO_branchMark 69 = .ok (.iload_n 1, 1) := by decide +kernel
theorem d_MO_branchMark_70 : decode b_MO_branchMark 70 = .ok (.bipush 18, 2) := by decide +kernel
theorem d_MO_branchMark_72 : decode b_MO_branchMark 72 = .ok (.if_icmp .eq 26, 3) := by decide +kernel
theorem d_MO_branchMark_75 : decode b_MO_branchMark 75 = .ok (.iload_n 1, 1) := by decide +kernel
theorem d_MO_branchMark_76 : decode b_MO_branchMark 76 = .ok (.iconst 3, 1) := by decide +kernel
theorem d_MO_branchMark_77 : decode b_MO_branchMark 77 = .ok (.if_icmp .eq 21, 3) := by decide +kernel
theorem d_MO_branchMark_80 : decode b_MO_branchMark 80 = .ok (.iload_n 1, 1) := by decide +kernel
theorem d_MO_branchMark_81 : decode b_MO_branchMark 81 = .ok (.bipush 51, 2) := by decide +kernel
theorem d_MO_branchMark_83 : decode b_MO_branchMark 83 = .ok (.if_icmp .eq 15, 3) := by decide +kernel
theorem d_MO_branchMark_86 : decode b_MO_branchMark 86 = .ok (.iload_n 1, 1) := by decide +kernel
theorem d_MO_branchMark_87 : decode b_MO_branchMark 87 = .ok (.bipush 35, 2) := by decide +kernel
theorem d_MO_branchMark_89 : decode b_MO_branchMark 89 = .ok (.if_icmp .eq 9, 3) := by decide +kernel
theorem d_MO_branchMark_92 : decode b_MO_branchMark 92 = .ok (.iload_n 1, 1) := by decide +kernel
theorem d_MO_branchMark_93 : decode b_MO_branchMark 93 = .ok (.bipush 19, 2) := by decide +kernel
theorem d_MO_branchMark_95 : decode b_MO_branchMark 95 = .ok (.if_icmp .ne 7, 3) := by decide +kernel
theorem d_MO_branchMark_98 : decode b_MO_branchMark 98 = .ok (.iconst 1, 1) := by decide +kernel
theorem d_MO_branchMark_99 : decode b_MO_branchMark 99 = .ok (.goto 4, 3) := by decide +kernel
theorem d_MO_branchMark_102 : decode b_MO_branchMark 102 = .ok (.iconst 0, 1) := by decide +kernel
theorem d_MO_branchMark_103 : decode b_MO_branchMark 103 = .ok (.istore_n 3, 1) := by decide +kernel
theorem d_MO_branchMark_104 : decode b_MO_branchMark 104 = .ok (.iload_n 2, 1) := by decide +kernel
theorem d_MO_branchMark_105 : decode b_MO_branchMark 105 = .ok (.ifCond .eq 15, 3) := by decide +kernel
theorem d_MO_branchMark_108 : decode b_MO_branchMark 108 = .ok (.aload_n 0, 1) := by decide +kernel
theorem d_MO_branchMark_109 : decode b_MO_branchMark 109 = .ok (.getfield 13, 3) := by decide +kernel
theorem d_MO_branchMark_112 : decode b_MO_branchMark 112 = .ok (.aload_n 0, 1) := by decide +kernel
theorem d_MO_branchMark_113 : decode b_MO_branchMark 113 = .ok (.getfield 75, 3) := by decide +kernel
theorem d_MO_branchMark_116 : decode b_MO_branchMark 116 = .ok (.baload, 1) := by decide +kernel
theorem d_MO_branchMark_117 : decode b_MO_branchMark 117 = .ok (.ifCond .ne 26, 3) := by decide +kernel
theorem d_MO_branchMark_120 : decode b_MO_branchMark 120 = .ok (.iload_n 3, 1) := by decide +kernel
theorem d_MO_branchMark_121 : decode b_MO_branchMark 121 = .ok (.ifCond .eq 26, 3) := by decide +kernel
theorem d_MO_branchMark_124 : decode b_MO_branchMark 124 = .ok (.aload_n 0, 1) := by decide +kernel
theorem d_MO_branchMark_125 : decode b_MO_branchMark 125 = .ok (.getfield 7, 3) := by decide +kernel
theorem d_MO_branchMark_128 : decode b_MO_branchMark 128 = .ok (.aload_n 0, 1) := by decide +kernel
theorem d_MO_branchMark_129 : decode b_MO_branchMark 129 = .ok (.getfield 75, 3) := by decide +kernel
theorem d_MO_branchMark_132 : decode b_MO_branchMark 132 = .ok (.baload, 1) := by decide +kernel
theorem d_MO_branchMark_133 : decode b_MO_branchMark 133 = .ok (.invokestatic 68, 3) := by decide +kernel
theorem d_MO_branchMark_136 : decode b_MO_branchMark 136 = .ok (.iload_n 1, 1) := by decide +kernel
theorem d_MO_branchMark_137 : decode b_MO_branchMark 137 = .ok (.invokestatic 68, 3) := by decide +kernel
theorem d_MO_branchMark_140 : decode b_MO_branchMark 140 = .ok (.if_icmp .ne 7, 3) := by decide +kernel
theorem d_MO_branchMark_143 : decode b_MO_branchMark 143 = .ok (.iconst 1, 1) := by decide +kernel
theorem d_MO_branchMark_144 : decode b_MO_branchMark 144 = .ok (.goto 4, 3) := by decide +kernel
theorem d_MO_branchMark_147 : decode b_MO_branchMark 147 = .ok (.iconst 0, 1) := by decide +kernel
theorem d_MO_branchMark_148 : decode b_MO_branchMark 148 = .ok (.istore 4, 2) := by decide +kernel
theorem d_MO_branchMark_150 : decode b_MO_branchMark 150 = .ok (.aload_n 0, 1) := by decide +kernel
theorem d_MO_branchMark_151 : decode b_MO_branchMark 151 = .ok (.dup, 1) := by decide +kernel
theorem d_MO_branchMark_152 : decode b_MO_branchMark 152 = .ok (.getfield 75, 3) := by decide +kernel
theorem d_MO_branchMark_155 : decode b_MO_branchMark 155 = .ok (.iconst 1, 1) := by decide +kernel
theorem d_MO_branchMark_156 : decode b_MO_branchMark 156 = .ok (.isub, 1) := by decide +kernel
theorem d_MO_branchMark_157 : decode b_MO_branchMark 157 = .ok (.putfield 75, 3) := by decide +kernel
theorem d_MO_branchMark_160 : decode b_MO_branchMark 160 = .ok (.iload 4, 2) := by decide +kernel
theorem d_MO_branchMark_162 : decode b_MO_branchMark 162 = .ok (.ifCond .eq 7, 3) := by decide +kernel
theorem d_MO_branchMark_165 : decode b_MO_branchMark 165 = .ok (.aload_n 0, 1) := by decide +kernel
theorem d_MO_branchMark_166 : decode b_MO_branchMark 166 = .ok (.invokevirtual 122, 3) := by decide +kernel
theorem d_MO_branchMark_169 : decode b_MO_branchMark 169 = .ok (.iconst 0, 1) := by decide +kernel
theorem d_MO_branchMark_170 : decode b_MO_branchMark 170 = .ok (.ireturn, 1) := by decide +kernel
theorem d_MO_readCard_0 : decode b_MO_readCard 0 = .ok (.aload_n 0, 1) := by decide +kernel
theorem d_MO_readCard_1 : decode b_MO_readCard 1 = .ok (.getfield 62, 3) := by decide +kernel
theorem d_MO_readCard_4 : decode b_MO_readCard 4 = .ok (.aload_n 0, 1) := by decide +kernel
theorem d_MO_readCard_5 : decode b_MO_readCard 5 = .ok (.getfield 59, 3) := by decide +kernel
theorem d_MO_readCard_8 : decode b_MO_readCard 8 = .ok (.if_icmp .ne 5, 3) := by decide +kernel
theorem d_MO_readCard_11 : decode b_MO_readCard 11 = .ok (.iconst 4, 1) := by decide +kernel
theorem d_MO_readCard_12 : decode b_MO_readCard 12 = .ok (.ireturn, 1) := by decide +kernel
theorem d_MO_readCard_13 : decode b_MO_readCard 13 = .ok (.iconst 0, 1) := by decide +kernel
theorem d_MO_readCard_14 : decode b_MO_readCard 14 = .ok (.istore_n 1, 1) := by decide +kernel
theorem d_MO_readCard_15 : decode b_MO_readCard 15 = .ok (.iload_n 1, 1) := by decide +kernel
theorem d_MO_readCard_16 : decode b_MO_readCard 16 = .ok (.bipush 80, 2) := by decide +kernel
theorem d_MO_readCard_18 : decode b_MO_readCard 18 = .ok (.if_icmp .ge 31, 3) := by decide +kernel
theorem d_MO_readCard_21 : decode b_MO_readCard 21 = .ok (.aload_n 0, 1) := by decide +kernel
theorem d_MO_readCard_22 : decode b_MO_readCard 22 = .ok (.getfield 7, 3) := by decide +kernel
theorem d_MO_readCard_25 : decode b_MO_readCard 25 = .ok (.iconst 1, 1) := by decide +kernel
theorem d_MO_readCard_26 : decode b_MO_readCard 26 = .ok (.iload_n 1, 1) := by decide +kernel
theorem d_MO_readCard_27 : decode b_MO_readCard 27 = .ok (.iadd, 1) := by decide +kernel
theorem d_MO_readCard_28 : decode b_MO_readCard 28 = .ok (.aload_n 0, 1) := by decide +kernel
theorem d_MO_readCard_29 : decode b_MO_readCard 29 = .ok (.getfield 20, 3) := by decide +kernel
theorem d_MO_readCard_32 : decode b_MO_readCard 32 = .ok (.bipush 80, 2) := by decide +kernel
theorem d_MO_readCard_34 : decode b_MO_readCard 34 = .ok (.aload_n 0, 1) := by decide +kernel
theorem d_MO_readCard_35 : decode b_MO_readCard 35 = .ok (.getfield 62, 3) := by decide +kernel
theorem d_MO_readCard_38 : decode b_MO_readCard 38 = .ok (.imul, 1) := by decide +kernel
theorem d_MO_readCard_39 : decode b_MO_readCard 39 = .ok (.iload_n 1, 1) := by decide +kernel
theorem d_MO_readCard_40 : decode b_MO_readCard 40 = .ok (.iadd, 1) := by decide +kernel
theorem d_MO_readCard_41 : decode b_MO_readCard 41 = .ok (.baload, 1) := by decide +kernel
theorem d_MO_readCard_42 : decode b_MO_readCard 42 = .ok (.bastore, 1) := by decide +kernel
theorem d_MO_readCard_43 : decode b_MO_readCard 43 = .ok (.iinc 1 1, 3) := by decide +kernel
theorem d_MO_readCard_46 : decode b_MO_readCard 46 = .ok (.goto (-31), 3) := by decide +kernel
theorem d_MO_readCard_49 : decode b_MO_readCard 49 = .ok (.aload_n 0, 1) := by decide +kernel
theorem d_MO_readCard_50 : decode b_MO_readCard 50 = .ok (.dup, 1) := by decide +kernel
theorem d_MO_readCard_51 : decode b_MO_readCard 51 = .ok (.getfield 62, 3) := by decide +kernel
theorem d_MO_readCard_54 : decode b_MO_readCard 54 = .ok (.iconst 1, 1) := by decide +kernel
theorem d_MO_readCard_55 : decode b_MO_readCard 55 = .ok (.iadd, 1) := by decide +kernel
theorem d_MO_readCard_56 : decode b_MO_readCard 56 = .ok (.putfield 62, 3) := by decide +kernel
theorem d_MO_readCard_59 : decode b_MO_readCard 59 = .ok (.aload_n 0, 1) := by decide +kernel
theorem d_MO_readCard_60 : decode b_MO_readCard 60 = .ok (.aload_n 0, 1) := by decide +kernel
theorem d_MO_readCard_61 : decode b_MO_readCard 61 = .ok (.getfield 62, 3) := by decide +kernel
theorem d_MO_readCard_64 : decode b_MO_readCard 64 = .ok (.aload_n 0, 1) := by decide +kernel
theorem d_MO_readCard_65 : decode b_MO_readCard 65 = .ok (.getfield 59, 3) := by decide +kernel
theorem d_MO_readCard_68 : decode b_MO_readCard 68 = .ok (.if_icmp .ne 7, 3) := by decide +kernel
theorem d_MO_readCard_71 : decode b_MO_readCard 71 = .ok (.iconst 1, 1) := by decide +kernel
theorem d_MO_readCard_72 : decode b_MO_readCard 72 = .ok (.goto 4, 3) := by decide +kernel
theorem d_MO_readCard_75 : decode b_MO_readCard 75 = .ok (.iconst 0, 1) := by decide +kernel
theorem d_MO_readCard_76 : decode b_MO_readCard 76 = .ok (.putfield 131, 3) := by decide +kernel
theorem d_MO_readCard_79 : decode b_MO_readCard 79 = .ok (.aload_n 0, 1) := by decide +kernel
theorem d_MO_readCard_80 : decode b_MO_readCard 80 = .ok (.bipush 81, 2) := by decide +kernel
theorem d_MO_readCard_82 : decode b_MO_readCard 82 = .ok (.putfield 75, 3) := by decide +kernel
theorem d_MO_readCard_85 : decode b_MO_readCard 85 = .ok (.iconst 0, 1) := by decide +kernel
theorem d_MO_readCard_86 : decode b_MO_readCard 86 = .ok (.ireturn, 1) := by decide +kernel
theorem d_MO_print_0 : decode b_MO_print 0 = .ok (.aload_n 0, 1) := by decide +kernel
theorem d_MO_print_1 : decode b_MO_print 1 = .ok (.getfield 134, 3) := by decide +kernel
theorem d_MO_print_4 : decode b_MO_print 4 = .ok (.bipush 40, 2) := by decide +kernel
theorem d_MO_print_6 : decode b_MO_print 6 = .ok (.if_icmp .ne 5, 3) := by decide +kernel
theorem d_MO_print_9 : decode b_MO_print 9 = .ok (.iconst 5, 1) := by decide +kernel
theorem d_MO_print_10 : decode b_MO_print 10 = .ok (.ireturn, 1) := by decide +kernel
theorem d_MO_print_11 : decode b_MO_print 11 = .ok (.iconst 0, 1) := by decide +kernel
theorem d_MO_print_12 : decode b_MO_print 12 = .ok (.istore_n 1, 1) := by decide +kernel
theorem d_MO_print_13 : decode b_MO_print 13 = .ok (.iload_n 1, 1) := by decide +kernel
theorem d_MO_print_14 : decode b_MO_print 14 = .ok (.sipush 132, 3) := by decide +kernel
theorem d_MO_print_17 : decode b_MO_print 17 = .ok (.if_icmp .ge 34, 3) := by decide +kernel
theorem d_MO_print_20 : decode b_MO_print 20 = .ok (.aload_n 0, 1) := by decide +kernel
theorem d_MO_print_21 : decode b_MO_print 21 = .ok (.getfield 23, 3) := by decide +kernel
theorem d_MO_print_24 : decode b_MO_print 24 = .ok (.sipush 132, 3) := by decide +kernel
theorem d_MO_print_27 : decode b_MO_print 27 = .ok (.aload_n 0, 1) := by decide +kernel
theorem d_MO_print_28 : decode b_MO_print 28 = .ok (.getfield 134, 3) := by decide +kernel
theorem d_MO_print_31 : decode b_MO_print 31 = .ok (.imul, 1) := by decide +kernel
theorem d_MO_print_32 : decode b_MO_print 32 = .ok (.iload_n 1, 1) := by decide +kernel
theorem d_MO_print_33 : decode b_MO_print 33 = .ok (.iadd, 1) := by decide +kernel
theorem d_MO_print_34 : decode b_MO_print 34 = .ok (.aload_n 0, 1) := by decide +kernel
theorem d_MO_print_35 : decode b_MO_print 35 = .ok (.getfield 7, 3) := by decide +kernel
theorem d_MO_print_38 : decode b_MO_print 38 = .ok (.sipush 201, 3) := by decide +kernel
theorem d_MO_print_41 : decode b_MO_print 41 = .ok (.iload_n 1, 1) := by decide +kernel
theorem d_MO_print_42 : decode b_MO_print 42 = .ok (.iadd, 1) := by decide +kernel
theorem d_MO_print_43 : decode b_MO_print 43 = .ok (.baload, 1) := by decide +kernel
theorem d_MO_print_44 : decode b_MO_print 44 = .ok (.bastore, 1) := by decide +kernel
theorem d_MO_print_45 : decode b_MO_print 45 = .ok (.iinc 1 1, 3) := by decide +kernel
theorem d_MO_print_48 : decode b_MO_print 48 = .ok (.goto (-35), 3) := by decide +kernel
theorem d_MO_print_51 : decode b_MO_print 51 = .ok (.aload_n 0, 1) := by decide +kernel
theorem d_MO_print_52 : decode b_MO_print 52 = .ok (.dup, 1) := by decide +kernel
theorem d_MO_print_53 : decode b_MO_print 53 = .ok (.getfield 134, 3) := by decide +kernel
theorem d_MO_print_56 : decode b_MO_print 56 = .ok (.iconst 1, 1) := by decide +kernel
theorem d_MO_print_57 : decode b_MO_print 57 = .ok (.iadd, 1) := by decide +kernel
theorem d_MO_print_58 : decode b_MO_print 58 = .ok (.putfield 134, 3) := by decide +kernel
theorem d_MO_print_61 : decode b_MO_print 61 = .ok (.aload_n 0, 1) := by decide +kernel
theorem d_MO_print_62 : decode b_MO_print 62 = .ok (.sipush 333, 3) := by decide +kernel
theorem d_MO_print_65 : decode b_MO_print 65 = .ok (.putfield 75, 3) := by decide +kernel
theorem d_MO_print_68 : decode b_MO_print 68 = .ok (.iconst 0, 1) := by decide +kernel
theorem d_MO_print_69 : decode b_MO_print 69 = .ok (.ireturn, 1) := by decide +kernel
theorem d_MO_punchCard_0 : decode b_MO_punchCard 0 = .ok (.aload_n 0, 1) := by decide +kernel
theorem d_MO_punchCard_1 : decode b_MO_punchCard 1 = .ok (.getfield 137, 3) := by decide +kernel
theorem d_MO_punchCard_4 : decode b_MO_punchCard 4 = .ok (.bipush 20, 2) := by decide +kernel
theorem d_MO_punchCard_6 : decode b_MO_punchCard 6 = .ok (.if_icmp .ne 5, 3) := by decide +kernel
theorem d_MO_punchCard_9 : decode b_MO_punchCard 9 = .ok (.iconst 5, 1) := by decide +kernel
theorem d_MO_punchCard_10 : decode b_MO_punchCard 10 = .ok (.ireturn, 1) := by decide +kernel
theorem d_MO_punchCard_11 : decode b_MO_punchCard 11 = .ok (.iconst 0, 1) := by decide +kernel
theorem d_MO_punchCard_12 : decode b_MO_punchCard 12 = .ok (.istore_n 1, 1) := by decide +kernel
theorem d_MO_punchCard_13 : decode b_MO_punchCard 13 = .ok (.iload_n 1, 1) := by decide +kernel
theorem d_MO_punchCard_14 : decode b_MO_punchCard 14 = .ok (.bipush 80, 2) := by decide +kernel
theorem d_MO_punchCard_16 : decode b_MO_punchCard 16 = .ok (.if_icmp .ge 32, 3) := by decide +kernel
theorem d_MO_punchCard_19 : decode b_MO_punchCard 19 = .ok (.aload_n 0, 1) := by decide +kernel
theorem d_MO_punchCard_20 : decode b_MO_punchCard 20 = .ok (.getfield 26, 3) := by decide +kernel
theorem d_MO_punchCard_23 : decode b_MO_punchCard 23 = .ok (.bipush 80, 2) := by decide +kernel
theorem d_MO_punchCard_25 : decode b_MO_punchCard 25 = .ok (.aload_n 0, 1) := by decide +kernel
theorem d_MO_punchCard_26 : decode b_MO_punchCard 26 = .ok (.getfield 137, 3) := by decide +kernel
theorem d_MO_punchCard_29 : decode b_MO_punchCard 29 = .ok (.imul, 1) := by decide +kernel
theorem d_MO_punchCard_30 : decode b_MO_punchCard 30 = .ok (.iload_n 1, 1) := by decide +kernel
theorem d_MO_punchCard_31 : decode b_MO_punchCard 31 = .ok (.iadd, 1) := by decide +kernel
theorem d_MO_punchCard_32 : decode b_MO_punchCard 32 = .ok (.aload_n 0, 1) := by decide +kernel
theorem d_MO_punchCard_33 : decode b_MO_punchCard 33 = .ok (.getfield 7, 3) := by decide +kernel
theorem d_MO_punchCard_36 : decode b_MO_punchCard 36 = .ok (.bipush 101, 2) := by decide +kernel
theorem d_MO_punchCard_38 : decode b_MO_punchCard 38 = .ok (.iload_n 1, 1) := by decide +kernel
theorem d_MO_punchCard_39 : decode b_MO_punchCard 39 = .ok (.iadd, 1) := by decide +kernel
theorem d_MO_punchCard_40 : decode b_MO_punchCard 40 = .ok (.baload, 1) := by decide +kernel
theorem d_MO_punchCard_41 : decode b_MO_punchCard 41 = .ok (.bastore, 1) := by decide +kernel
theorem d_MO_punchCard_42 : decode b_MO_punchCard 42 = .ok (.iinc 1 1, 3) := by decide +kernel
theorem d_MO_punchCard_45 : decode b_MO_punchCard 45 = .ok (.goto (-32), 3) := by decide +kernel
theorem d_MO_punchCard_48 : decode b_MO_punchCard 48 = .ok (.aload_n 0, 1) := by decide +kernel
theorem d_MO_punchCard_49 : decode b_MO_punchCard 49 = .ok (.dup, 1) := by decide +kernel
theorem d_MO_punchCard_50 : decode b_MO_punchCard 50 = .ok (.getfield 137, 3) := by decide +kernel
theorem d_MO_punchCard_53 : decode b_MO_punchCard 53 = .ok (.iconst 1, 1) := by decide +kernel
theorem d_MO_punchCard_54 : decode b_MO_punchCard 54 = .ok (.iadd, 1) := by decide +kernel
theorem d_MO_punchCard_55 : decode b_MO_punchCard 55 = .ok (.putfield 137, 3) := by decide +kernel
theorem d_MO_punchCard_58 : decode b_MO_punchCard 58 = .ok (.aload_n 0, 1) := by decide +kernel
theorem d_MO_punchCard_59 : decode b_MO_punchCard 59 = .ok (.sipush 181, 3) := by decide +kernel
theorem d_MO_punchCard_62 : decode b_MO_punchCard 62 = .ok (.putfield 75, 3) := by decide +kernel
theorem d_MO_punchCard_65 : decode b_MO_punchCard 65 = .ok (.iconst 0, 1) := by decide +kernel
theorem d_MO_punchCard_66 : decode b_MO_punchCard 66 = .ok (.ireturn, 1) := by decide +kernel
theorem d_MO_device_0 : decode b_MO_device 0 = .ok (.aload_n 0, 1) := by decide +kernel
theorem d_MO_device_1 : decode b_MO_device 1 = .ok (.getfield 91, 3) := by decide +kernel
theorem d_MO_device_4 : decode b_MO_device 4 = .ok (.iconst 1, 1) := by decide +kernel
theorem d_MO_device_5 : decode b_MO_device 5 = .ok (.if_icmp .ne 10, 3) := by decide +kernel
theorem d_MO_device_8 : decode b_MO_device 8 = .ok (.aload_n 0, 1) := by decide +kernel
theorem d_MO_device_9 : decode b_MO_device 9 = .ok (.invokevirtual 140, 3) := by decide +kernel
theorem d_MO_device_12 : decode b_MO_device 12 = .ok (.goto 22, 3) := by decide +kernel
theorem d_MO_device_15 : decode b_MO_device 15 = .ok (.aload_n 0, 1) := by decide +kernel
theorem d_MO_device_16 : decode b_MO_device 16 = .ok (.getfield 91, 3) := by decide +kernel
theorem d_MO_device_19 : decode b_MO_device 19 = .ok (.iconst 2, 1) := by decide +kernel
theorem d_MO_device_20 : decode b_MO_device 20 = .ok (.if_icmp .ne 10, 3) := by decide +kernel
theorem d_MO_device_23 : decode b_MO_device 23 = .ok (.aload_n 0, 1) := by decide +kernel
theorem d_MO_device_24 : decode b_MO_device 24 = .ok (.invokevirtual 143, 3) := by decide +kernel
theorem d_MO_device_27 : decode b_MO_device 27 = .ok (.goto 7, 3) := by decide +kernel
theorem d_MO_device_30 : decode b_MO_device 30 = .ok (.aload_n 0, 1) := by decide +kernel
theorem d_MO_device_31 : decode b_MO_device 31 = .ok (.invokevirtual 146, 3) := by decide +kernel
theorem d_MO_device_34 : decode b_MO_device 34 = .ok (.istore_n 1, 1) := by decide +kernel
theorem d_MO_device_35 : decode b_MO_device 35 = .ok (.iload_n 1, 1) := by decide +kernel
theorem d_MO_device_36 : decode b_MO_device 36 = .ok (.ifCond .ne 15, 3) := by decide +kernel
theorem d_MO_device_39 : decode b_MO_device 39 = .ok (.aload_n 0, 1) := by decide +kernel
theorem d_MO_device_40 : decode b_MO_device 40 = .ok (.getfield 119, 3) := by decide +kernel
theorem d_MO_device_43 : decode b_MO_device 43 = .ok (.iconst 3, 1) := by decide +kernel
theorem d_MO_device_44 : decode b_MO_device 44 = .ok (.if_icmp .le 7, 3) := by decide +kernel
theorem d_MO_device_47 : decode b_MO_device 47 = .ok (.aload_n 0, 1) := by decide +kernel
theorem d_MO_device_48 : decode b_MO_device 48 = .ok (.invokevirtual 122, 3) := by decide +kernel
theorem d_MO_device_51 : decode b_MO_device 51 = .ok (.iload_n 1, 1) := by decide +kernel
theorem d_MO_device_52 : decode b_MO_device 52 = .ok (.ireturn, 1) := by decide +kernel
theorem d_MO_keepRegister_0 : decode b_MO_keepRegister 0 = .ok (.aload_n 0, 1) := by decide +kernel
theorem d_MO_keepRegister_1 : decode b_MO_keepRegister 1 = .ok (.aload_n 0, 1) := by decide +kernel
theorem d_MO_keepRegister_2 : decode b_MO_keepRegister 2 = .ok (.getfield 85, 3) := by decide +kernel
theorem d_MO_keepRegister_5 : decode b_MO_keepRegister 5 = .ok (.invokevirtual 46, 3) := by decide +kernel
theorem d_MO_keepRegister_8 : decode b_MO_keepRegister 8 = .ok (.ifCond .eq 16, 3) := by decide +kernel
theorem d_MO_keepRegister_11 : decode b_MO_keepRegister 11 = .ok (.aload_n 0, 1) := by decide +kernel
theorem d_MO_keepRegister_12 : decode b_MO_keepRegister 12 = .ok (.aload_n 0, 1) := by decide +kernel
theorem d_MO_keepRegister_13 : decode b_MO_keepRegister 13 = .ok (.getfield 85, 3) := by decide +kernel
theorem d_MO_keepRegister_16 : decode b_MO_keepRegister 16 = .ok (.iconst 2, 1) := by decide +kernel
theorem d_MO_keepRegister_17 : decode b_MO_keepRegister 17 = .ok (.isub, 1) := by decide +kernel
theorem d_MO_keepRegister_18 : decode b_MO_keepRegister 18 = .ok (.invokevirtual 46, 3) := by decide +kernel
theorem d_MO_keepRegister_21 : decode b_MO_keepRegister 21 = .ok (.ifCond .ne 5, 3) := by decide +kernel
theorem d_MO_keepRegister_24 : decode b_MO_keepRegister 24 = .ok (.iconst 2, 1) := by decide +kernel
theorem d_MO_keepRegister_25 : decode b_MO_keepRegister 25 = .ok (.ireturn, 1) := by decide +kernel
theorem d_MO_keepRegister_26 : decode b_MO_keepRegister 26 = .ok (.aload_n 0, 1) := by decide +kernel
theorem d_MO_keepRegister_27 : decode b_MO_keepRegister 27 = .ok (.getfield 91, 3) := by decide +kernel
theorem d_MO_keepRegister_30 : decode b_MO_keepRegister 30 = .ok (.bipush 40, 2) := by decide +kernel
theorem d_MO_keepRegister_32 : decode b_MO_keepRegister 32 = .ok (.if_icmp .ne 10, 3) := by decide +kernel
theorem d_MO_keepRegister_35 : decode b_MO_keepRegister 35 = .ok (.aload_n 0, 1) := by decide +kernel
theorem d_MO_keepRegister_36 : decode b_MO_keepRegister 36 = .ok (.getfield 149, 3) := by decide +kernel
theorem d_MO_keepRegister_39 : decode b_MO_keepRegister 39 = .ok (.goto 7, 3) := by decide +kernel
theorem d_MO_keepRegister_42 : decode b_MO_keepRegister 42 = .ok (.aload_n 0, 1) := by decide +kernel
theorem d_MO_keepRegister_43 : decode b_MO_keepRegister 43 = .ok (.getfield 152, 3) := by decide +kernel
theorem d_MO_keepRegister_46 : decode b_MO_keepRegister 46 = .ok (.sipush 16000, 3) := by decide +kernel
theorem d_MO_keepRegister_49 : decode b_MO_keepRegister 49 = .ok (.irem, 1) := by decide +kernel
theorem d_MO_keepRegister_50 : decode b_MO_keepRegister 50 = .ok (.istore_n 1, 1) := by decide +kernel
theorem d_MO_keepRegister_51 : decode b_MO_keepRegister 51 = .ok (.iload_n 1, 1) := by decide +kernel
theorem d_MO_keepRegister_52 : decode b_MO_keepRegister 52 = .ok (.ifCond .ge 11, 3) := by decide +kernel
theorem d_MO_keepRegister_55 : decode b_MO_keepRegister 55 = .ok (.iload_n 1, 1) := by decide +kernel
theorem d_MO_keepRegister_56 : decode b_MO_keepRegister 56 = .ok (.sipush 16000, 3) := by decide +kernel
theorem d_MO_keepRegister_59 : decode b_MO_keepRegister 59 = .ok (.iadd, 1) := by decide +kernel
theorem d_MO_keepRegister_60 : decode b_MO_keepRegister 60 = .ok (.goto 4, 3) := by decide +kernel
theorem d_MO_keepRegister_63 : decode b_MO_keepRegister 63 = .ok (.iload_n 1, 1) := by decide +kernel
theorem d_MO_keepRegister_64 : decode b_MO_keepRegister 64 = .ok (.istore_n 1, 1) := by decide +kernel
theorem d_MO_keepRegister_65 : decode b_MO_keepRegister 65 = .ok (.iload_n 1, 1) := by decide +kernel
theorem d_MO_keepRegister_66 : decode b_MO_keepRegister 66 = .ok (.sipush 1000, 3) := by decide +kernel
theorem d_MO_keepRegister_69 : decode b_MO_keepRegister 69 = .ok (.idiv, 1) := by decide +kernel
theorem d_MO_keepRegister_70 : decode b_MO_keepRegister 70 = .ok (.istore_n 2, 1) := by decide +kernel
theorem d_MO_keepRegister_71 : decode b_MO_keepRegister 71 = .ok (.aload_n 0, 1) := by decide +kernel
theorem d_MO_keepRegister_72 : decode b_MO_keepRegister 72 = .ok (.getfield 7, 3) := by decide +kernel
theorem d_MO_keepRegister_75 : decode b_MO_keepRegister 75 = .ok (.aload_n 0, 1) := by decide +kernel
theorem d_MO_keepRegister_76 : decode b_MO_keepRegister 76 = .ok (.getfield 85, 3) := by decide +kernel
theorem d_MO_keepRegister_79 : decode b_MO_keepRegister 79 = .ok (.iconst 2, 1) := by decide +kernel
theorem d_MO_keepRegister_80 : decode b_MO_keepRegister 80 = .ok (.isub, 1) := by decide +kernel
theorem d_MO_keepRegister_81 : decode b_MO_keepRegister 81 = .ok (.iload_n 1, 1) := by decide +kernel
theorem d_MO_keepRegister_82 : decode b_MO_keepRegister 82 = .ok (.bipush 100, 2) := by decide +kernel
theorem d_MO_keepRegister_84 : decode b_MO_keepRegister 84 = .ok (.idiv, 1) := by decide +kernel
theorem d_MO_keepRegister_85 : decode b_MO_keepRegister 85 = .ok (.bipush 10, 2) := by decide +kernel
theorem d_MO_keepRegister_87 : decode b_MO_keepRegister 87 = .ok (.irem, 1) := by decide +kernel
theorem d_MO_keepRegister_88 : decode b_MO_keepRegister 88 = .ok (.invokestatic 78, 3) := by decide +kernel
theorem d_MO_keepRegister_91 : decode b_MO_keepRegister 91 = .ok (.iload_n 2, 1) := by decide +kernel
theorem d_MO_keepRegister_92 : decode b_MO_keepRegister 92 = .ok (.iconst 1, 1) := by decide +kernel
theorem d_MO_keepRegister_93 : decode b_MO_keepRegister 93 = .ok (.iand, 1) := by decide +kernel
theorem d_MO_keepRegister_94 : decode b_MO_keepRegister 94 = .ok (.bipush 16, 2) := by decide +kernel
theorem d_MO_keepRegister_96 : decode b_MO_keepRegister 96 = .ok (.imul, 1) := by decide +kernel
theorem d_MO_keepRegister_97 : decode b_MO_keepRegister 97 = .ok (.ior, 1) := by decide +kernel
theorem d_MO_keepRegister_98 : decode b_MO_keepRegister 98 = .ok (.iload_n 2, 1) := by decide +kernel
theorem d_MO_keepRegister_99 : decode b_MO_keepRegister 99 = .ok (.iconst 1, 1) := by decide +kernel
theorem d_MO_keepRegister_100 : decode b_MO_keepRegister 100 = .ok (.ishr, 1) := by decide +kernel
theorem d_MO_keepRegister_101 : decode b_MO_keepRegister 101 = .ok (.iconst 1, 1) := by decide +kernel
theorem d_MO_keepRegister_102 : decode b_MO_keepRegister 102 = .ok (.iand, 1) := by decide +kernel
theorem d_MO_keepRegister_103 : decode b_MO_keepRegister 103 = .ok (.bipush 32, 2) := by decide +kernel
theorem d_MO_keepRegister_105 : decode b_MO_keepRegister 105 = .ok (.imul, 1) := by decide +kernel
theorem d_MO_keepRegister_106 : decode b_MO_keepRegister 106 = .ok (.ior, 1) := by decide +kernel
theorem d_MO_keepRegister_107 : decode b_MO_keepRegister 107 = .ok (.i2b, 1) := by decide +kernel
theorem d_MO_keepRegister_108 : decode b_MO_keepRegister 108 = .ok (.bastore, 1) := by decide +kernel
theorem d_MO_keepRegister_109 : decode b_MO_keepRegister 109 = .ok (.aload_n 0, 1) := by decide +kernel
theorem d_MO_keepRegister_110 : decode b_MO_keepRegister 110 = .ok (.getfield 7, 3) := by decide +kernel
theorem d_MO_keepRegister_113 : decode b_MO_keepRegister 113 = .ok (.aload_n 0, 1) := by decide +kernel
theorem d_MO_keepRegister_114 : decode b_MO_keepRegister 114 = .ok (.getfield 85, 3) := by decide +kernel
theorem d_MO_keepRegister_117 : decode b_MO_keepRegister 117 = .ok (.iconst 1, 1) := by decide +kernel
theorem d_MO_keepRegister_118 : decode b_MO_keepRegister 118 = .ok (.isub, 1) := by decide +kernel
theorem d_MO_keepRegister_119 : decode b_MO_keepRegister 119 = .ok (.iload_n 1, 1) := by decide +kernel
theorem d_MO_keepRegister_120 : decode b_MO_keepRegister 120 = .ok (.bipush 10, 2) := by decide +kernel
theorem d_MO_keepRegister_122 : decode b_MO_keepRegister 122 = .ok (.idiv, 1) := by decide +kernel
theorem d_MO_keepRegister_123 : decode b_MO_keepRegister 123 = .ok (.bipush 10, 2) := by decide +kernel
theorem d_MO_keepRegister_125 : decode b_MO_keepRegister 125 = .ok (.irem, 1) := by decide +kernel
theorem d_MO_keepRegister_126 : decode b_MO_keepRegister 126 = .ok (.invokestatic 78, 3) := by decide +kernel
theorem d_MO_keepRegister_129 : decode b_MO_keepRegister 129 = .ok (.i2b, 1) := by decide +kernel
theorem d_MO_keepRegister_130 : decode b_MO_keepRegister 130 = .ok (.bastore, 1) := by decide +kernel
theorem d_MO_keepRegister_131 : decode b_MO_keepRegister 131 = .ok (.aload_n 0, 1) := by decide +kernel
theorem d_MO_keepRegister_132 : decode b_MO_keepRegister 132 = .ok (.getfield 7, 3) := by decide +kernel
theorem d_MO_keepRegister_135 : decode b_MO_keepRegister 135 = .ok (.aload_n 0, 1) := by decide +kernel
theorem d_MO_keepRegister_136 : decode b_MO_keepRegister 136 = .ok (.getfield 85, 3) := by decide +kernel
theorem d_MO_keepRegister_139 : decode b_MO_keepRegister 139 = .ok (.iload_n 1, 1) := by decide +kernel
theorem d_MO_keepRegister_140 : decode b_MO_keepRegister 140 = .ok (.bipush 10, 2) := by decide +kernel
theorem d_MO_keepRegister_142 : decode b_MO_keepRegister 142 = .ok (.irem, 1) := by decide +kernel
theorem d_MO_keepRegister_143 : decode b_MO_keepRegister 143 = .ok (.invokestatic 78, 3) := by decide +kernel
theorem d_MO_keepRegister_146 : decode b_MO_keepRegister 146 = .ok (.iload_n 2, 1) := by decide +kernel
theorem d_MO_keepRegister_147 : decode b_MO_keepRegister 147 = .ok (.iconst 2, 1) := by decide +kernel
theorem d_MO_keepRegister_148 : decode b_MO_keepRegister 148 = .ok (.ishr, 1) := by decide +kernel
theorem d_MO_keepRegister_149 : decode b_MO_keepRegister 149 = .ok (.iconst 1, 1) := by decide +kernel
theorem d_MO_keepRegister_150 : decode b_MO_keepRegister 150 = .ok (.iand, 1) := by decide +kernel
theorem d_MO_keepRegister_151 : decode b_MO_keepRegister 151 = .ok (.bipush 16, 2) := by decide +kernel
theorem d_MO_keepRegister_153 : decode b_MO_keepRegister 153 = .ok (.imul, 1) := by decide +kernel
theorem d_MO_keepRegister_154 : decode b_MO_keepRegister 154 = .ok (.ior, 1) := by decide +kernel
theorem d_MO_keepRegister_155 : decode b_MO_keepRegister 155 = .ok (.iload_n 2, 1) := by decide +kernel
theorem d_MO_keepRegister_156 : decode b_MO_keepRegister 156 = .ok (.iconst 3, 1) := by decide +kernel
theorem d_MO_keepRegister_157 : decode b_MO_keepRegister 157 = .ok (.ishr, 1) := by decide +kernel
theorem d_MO_keepRegister_158 : decode b_MO_keepRegister 158 = .ok (.iconst 1, 1) := by decide +kernel
theorem d_MO_keepRegister_159 : decode b_MO_keepRegister 159 = .ok (.iand, 1) := by decide +kernel
theorem d_MO_keepRegister_160 : decode b_MO_keepRegister 160 = .ok (.bipush 32, 2) := by decide +kernel
theorem d_MO_keepRegister_162 : decode b_MO_keepRegister 162 = .ok (.imul, 1) := by decide +kernel
theorem d_MO_keepRegister_163 : decode b_MO_keepRegister 163 = .ok (.ior, 1) := by decide +kernel
theorem d_MO_keepRegister_164 : decode b_MO_keepRegister 164 = .ok (.i2b, 1) := by decide +kernel
theorem d_MO_keepRegister_165 : decode b_MO_keepRegister 165 = .ok (.bastore, 1) := by decide +kernel
theorem d_MO_keepRegister_166 : decode b_MO_keepRegister 166 = .ok (.aload_n 0, 1) := by decide +kernel
theorem d_MO_keepRegister_167 : decode b_MO_keepRegister 167 = .ok (.dup, 1) := by decide +kernel
theorem d_MO_keepRegister_168 : decode b_MO_keepRegister 168 = .ok (.getfield 85, 3) := by decide +kernel
theorem d_MO_keepRegister_171 : decode b_MO_keepRegister 171 = .ok (.iconst 3, 1) := by decide +kernel
theorem d_MO_keepRegister_172 : decode b_MO_keepRegister 172 = .ok (.isub, 1) := by decide +kernel
theorem d_MO_keepRegister_173 : decode b_MO_keepRegister 173 = .ok (.putfield 85, 3) := by decide +kernel
theorem d_MO_keepRegister_176 : decode b_MO_keepRegister 176 = .ok (.aload_n 0, 1) := by decide +kernel
theorem d_MO_keepRegister_177 : decode b_MO_keepRegister 177 = .ok (.aload_n 0, 1) := by decide +kernel
theorem d_MO_keepRegister_178 : decode b_MO_keepRegister 178 = .ok (.getfield 152, 3) := by decide +kernel
theorem d_MO_keepRegister_181 : decode b_MO_keepRegister 181 = .ok (.putfield 75, 3) := by decide +kernel
theorem d_MO_keepRegister_184 : decode b_MO_keepRegister 184 = .ok (.iconst 0, 1) := by decide +kernel
theorem d_MO_keepRegister_185 : decode b_MO_keepRegister 185 = .ok (.ireturn, 1) := by decide +kernel
theorem d_MO_address_0 : decode b_MO_address 0 = .ok (.aload_n 0, 1) := by decide +kernel
theorem d_MO_address_1 : decode b_MO_address 1 = .ok (.getfield 7, 3) := by decide +kernel
theorem d_MO_address_4 : decode b_MO_address 4 = .ok (.iload_n 1, 1) := by decide +kernel
theorem d_MO_address_5 : decode b_MO_address 5 = .ok (.baload, 1) := by decide +kernel
theorem d_MO_address_6 : decode b_MO_address 6 = .ok (.istore_n 2, 1) := by decide +kernel
theorem d_MO_address_7 : decode b_MO_address 7 = .ok (.aload_n 0, 1) := by decide +kernel
theorem d_MO_address_8 : decode b_MO_address 8 = .ok (.getfield 7, 3) := by decide +kernel
theorem d_MO_address_11 : decode b_MO_address 11 = .ok (.iload_n 1, 1) := by decide +kernel
theorem d_MO_address_12 : decode b_MO_address 12 = .ok (.iconst 1, 1) := by decide +kernel
theorem d_MO_address_13 : decode b_MO_address 13 = .ok (.iadd, 1) := by decide +kernel
theorem d_MO_address_14 : decode b_MO_address 14 = .ok (.baload, 1) := by decide +kernel
theorem d_MO_address_15 : decode b_MO_address 15 = .ok (.istore_n 3, 1) := by decide +kernel
theorem d_MO_address_16 : decode b_MO_address 16 = .ok (.aload_n 0, 1) := by decide +kernel
theorem d_MO_address_17 : decode b_MO_address 17 = .ok (.getfield 7, 3) := by decide +kernel
theorem d_MO_address_20 : decode b_MO_address 20 = .ok (.iload_n 1, 1) := by decide +kernel
theorem d_MO_address_21 : decode b_MO_address 21 = .ok (.iconst 2, 1) := by decide +kernel
theorem d_MO_address_22 : decode b_MO_address 22 = .ok (.iadd, 1) := by decide +kernel
theorem d_MO_address_23 : decode b_MO_address 23 = .ok (.baload, 1) := by decide +kernel
theorem d_MO_address_24 : decode b_MO_address 24 = .ok (.istore 4, 2) := by decide +kernel
theorem d_MO_address_26 : decode b_MO_address 26 = .ok (.bipush 100, 2) := by decide +kernel
theorem d_MO_address_28 : decode b_MO_address 28 = .ok (.iload_n 2, 1) := by decide +kernel
theorem d_MO_address_29 : decode b_MO_address 29 = .ok (.invokestatic 72, 3) := by decide +kernel
theorem d_MO_address_32 : decode b_MO_address 32 = .ok (.imul, 1) := by decide +kernel
theorem d_MO_address_33 : decode b_MO_address 33 = .ok (.bipush 10, 2) := by decide +kernel
theorem d_MO_address_35 : decode b_MO_address 35 = .ok (.iload_n 3, 1) := by decide +kernel
theorem d_MO_address_36 : decode b_MO_address 36 = .ok (.invokestatic 72, 3) := by decide +kernel
theorem d_MO_address_39 : decode b_MO_address 39 = .ok (.imul, 1) := by decide +kernel
theorem d_MO_address_40 : decode b_MO_address 40 = .ok (.iadd, 1) := by decide +kernel
theorem d_MO_address_41 : decode b_MO_address 41 = .ok (.iload 4, 2) := by decide +kernel
theorem d_MO_address_43 : decode b_MO_address 43 = .ok (.invokestatic 72, 3) := by decide +kernel
theorem d_MO_address_46 : decode b_MO_address 46 = .ok (.iadd, 1) := by decide +kernel
theorem d_MO_address_47 : decode b_MO_address 47 = .ok (.iload_n 2, 1) := by decide +kernel
theorem d_MO_address_48 : decode b_MO_address 48 = .ok (.iconst 4, 1) := by decide +kernel
theorem d_MO_address_49 : decode b_MO_address 49 = .ok (.ishr, 1) := by decide +kernel
theorem d_MO_address_50 : decode b_MO_address 50 = .ok (.iconst 1, 1) := by decide +kernel
theorem d_MO_address_51 : decode b_MO_address 51 = .ok (.iand, 1) := by decide +kernel
theorem d_MO_address_52 : decode b_MO_address 52 = .ok (.sipush 1000, 3) := by decide +kernel
theorem d_MO_address_55 : decode b_MO_address 55 = .ok (.imul, 1) := by decide +kernel
theorem d_MO_address_56 : decode b_MO_address 56 = .ok (.iadd, 1) := by decide +kernel
theorem d_MO_address_57 : decode b_MO_address 57 = .ok (.iload_n 2, 1) := by decide +kernel
theorem d_MO_address_58 : decode b_MO_address 58 = .ok (.iconst 5, 1) := by decide +kernel
theorem d_MO_address_59 : decode b_MO_address 59 = .ok (.ishr, 1) := by decide +kernel
theorem d_MO_address_60 : decode b_MO_address 60 = .ok (.iconst 1, 1) := by decide +kernel
theorem d_MO_address_61 : decode b_MO_address 61 = .ok (.iand, 1) := by decide +kernel
theorem d_MO_address_62 : decode b_MO_address 62 = .ok (.sipush 2000, 3) := by decide +kernel
theorem d_MO_address_65 : decode b_MO_address 65 = .ok (.imul, 1) := by decide +kernel
theorem d_MO_address_66 : decode b_MO_address 66 = .ok (.iadd, 1) := by decide +kernel
theorem d_MO_address_67 : decode b_MO_address 67 = .ok (.iload 4, 2) := by decide +kernel
theorem d_MO_address_69 : decode b_MO_address 69 = .ok (.iconst 4, 1) := by decide +kernel
theorem d_MO_address_70 : decode b_MO_address 70 = .ok (.ishr, 1) := by decide +kernel
theorem d_MO_address_71 : decode b_MO_address 71 = .ok (.iconst 1, 1) := by decide +kernel
theorem d_MO_address_72 : decode b_MO_address 72 = .ok (.iand, 1) := by decide +kernel
theorem d_MO_address_73 : decode b_MO_address 73 = .ok (.sipush 4000, 3) := by decide +kernel
theorem d_MO_address_76 : decode b_MO_address 76 = .ok (.imul, 1) := by decide +kernel
theorem d_MO_address_77 : decode b_MO_address 77 = .ok (.iadd, 1) := by decide +kernel
theorem d_MO_address_78 : decode b_MO_address 78 = .ok (.iload 4, 2) := by decide +kernel
theorem d_MO_address_80 : decode b_MO_address 80 = .ok (.iconst 5, 1) := by decide +kernel
theorem d_MO_address_81 : decode b_MO_address 81 = .ok (.ishr, 1) := by decide +kernel
theorem d_MO_address_82 : decode b_MO_address 82 = .ok (.iconst 1, 1) := by decide +kernel
theorem d_MO_address_83 : decode b_MO_address 83 = .ok (.iand, 1) := by decide +kernel
theorem d_MO_address_84 : decode b_MO_address 84 = .ok (.sipush 8000, 3) := by decide +kernel
theorem d_MO_address_87 : decode b_MO_address 87 = .ok (.imul, 1) := by decide +kernel
theorem d_MO_address_88 : decode b_MO_address 88 = .ok (.iadd, 1) := by decide +kernel
theorem d_MO_address_89 : decode b_MO_address 89 = .ok (.ireturn, 1) := by decide +kernel
theorem d_MO_isArithmetic_0 : decode b_MO_isArithmetic 0 = .ok (.iload_n 0, 1) := by decide +kernel
theorem d_MO_isArithmetic_1 : decode b_MO_isArithmetic 1 = .ok (.bipush 49, 2) := by decide +kernel
theorem d_MO_isArithmetic_3 : decode b_MO_isArithmetic 3 = .ok (.if_icmp .eq 21, 3) := by decide +kernel
theorem d_MO_isArithmetic_6 : decode b_MO_isArithmetic 6 = .ok (.iload_n 0, 1) := by decide +kernel
theorem d_MO_isArithmetic_7 : decode b_MO_isArithmetic 7 = .ok (.bipush 18, 2) := by decide +kernel
theorem d_MO_isArithmetic_9 : decode b_MO_isArithmetic 9 = .ok (.if_icmp .eq 15, 3) := by decide +kernel
theorem d_MO_isArithmetic_12 : decode b_MO_isArithmetic 12 = .ok (.iload_n 0, 1) := by decide +kernel
theorem d_MO_isArithmetic_13 : decode b_MO_isArithmetic 13 = .ok (.bipush 58, 2) := by decide +kernel
theorem d_MO_isArithmetic_15 : decode b_MO_isArithmetic 15 = .ok (.if_icmp .eq 9, 3) := by decide +kernel
theorem d_MO_isArithmetic_18 : decode b_MO_isArithmetic 18 = .ok (.iload_n 0, 1) := by decide +kernel
theorem d_MO_isArithmetic_19 : decode b_MO_isArithmetic 19 = .ok (.bipush 42, 2) := by decide +kernel
theorem d_MO_isArithmetic_21 : decode b_MO_isArithmetic 21 = .ok (.if_icmp .ne 7, 3) := by decide +kernel
theorem d_MO_isArithmetic_24 : decode b_MO_isArithmetic 24 = .ok (.iconst 1, 1) := by decide +kernel
theorem d_MO_isArithmetic_25 : decode b_MO_isArithmetic 25 = .ok (.goto 4, 3) := by decide +kernel
theorem d_MO_isArithmetic_28 : decode b_MO_isArithmetic 28 = .ok (.iconst 0, 1) := by decide +kernel
theorem d_MO_isArithmetic_29 : decode b_MO_isArithmetic 29 = .ok (.ireturn, 1) := by decide +kernel
theorem d_MO_may_0 : decode b_MO_may 0 = .ok (.iload_n 1, 1) := by decide +kernel
theorem d_MO_may_1 : decode b_MO_may 1 = .ok (.iconst 1, 1) := by decide +kernel
theorem d_MO_may_2 : decode b_MO_may 2 = .ok (.if_icmp .eq 14, 3) := by decide +kernel
theorem d_MO_may_5 : decode b_MO_may 5 = .ok (.iload_n 1, 1) := by decide +kernel
theorem d_MO_may_6 : decode b_MO_may 6 = .ok (.iconst 4, 1) := by decide +kernel
theorem d_MO_may_7 : decode b_MO_may 7 = .ok (.if_icmp .eq 9, 3) := by decide +kernel
theorem d_MO_may_10 : decode b_MO_may 10 = .ok (.iload_n 1, 1) := by decide +kernel
theorem d_MO_may_11 : decode b_MO_may 11 = .ok (.bipush 7, 2) := by decide +kernel
theorem d_MO_may_13 : decode b_MO_may 13 = .ok (.if_icmp .ne 7, 3) := by decide +kernel
theorem d_MO_may_16 : decode b_MO_may 16 = .ok (.iconst 1, 1) := by decide +kernel
theorem d_MO_may_17 : decode b_MO_may 17 = .ok (.goto 4, 3) := by decide +kernel
theorem d_MO_may_20 : decode b_MO_may 20 = .ok (.iconst 0, 1) := by decide +kernel
theorem d_MO_may_21 : decode b_MO_may 21 = .ok (.istore_n 2, 1) := by decide +kernel
theorem d_MO_may_22 : decode b_MO_may 22 = .ok (.iload_n 0, 1) := by decide +kernel
theorem d_MO_may_23 : decode b_MO_may 23 = .ok (.invokestatic 155, 3) := by decide +kernel
theorem d_MO_may_26 : decode b_MO_may 26 = .ok (.ifCond .ne 57, 3) := by decide +kernel
theorem d_MO_may_29 : decode b_MO_may 29 = .ok (.iload_n 0, 1) := by decide +kernel
theorem d_MO_may_30 : decode b_MO_may 30 = .ok (.bipush 36, 2) := by decide +kernel
theorem d_MO_may_32 : decode b_MO_may 32 = .ok (.if_icmp .eq 51, 3) := by decide +kernel
theorem d_MO_may_35 : decode b_MO_may 35 = .ok (.iload_n 0, 1) := by decide +kernel
theorem d_MO_may_36 : decode b_MO_may 36 = .ok (.bipush 35, 2) := by decide +kernel
theorem d_MO_may_38 : decode b_MO_may 38 = .ok (.if_icmp .eq 45, 3) := by decide +kernel
theorem d_MO_may_41 : decode b_MO_may 41 = .ok (.iload_n 0, 1) := by decide +kernel
theorem d_MO_may_42 : decode b_MO_may 42 = .ok (.bipush 52, 2) := by decide +kernel
theorem d_MO_may_44 : decode b_MO_may 44 = .ok (.if_icmp .eq 39, 3) := by decide +kernel
theorem d_MO_may_47 : decode b_MO_may 47 = .ok (.iload_n 0, 1) := by decide +kernel
theorem d_MO_may_48 : decode b_MO_may 48 = .ok (.bipush 24, 2) := by decide +kernel
theorem d_MO_may_50 : decode b_MO_may 50 = .ok (.if_icmp .eq 33, 3) := by decide +kernel
theorem d_MO_may_53 : decode b_MO_may 53 = .ok (.iload_n 0, 1) := by decide +kernel
theorem d_MO_may_54 : decode b_MO_may 54 = .ok (.bipush 51, 2) := by decide +kernel
theorem d_MO_may_56 : decode b_MO_may 56 = .ok (.if_icmp .eq 27, 3) := by decide +kernel
theorem d_MO_may_59 : decode b_MO_may 59 = .ok (.iload_n 0, 1) := by decide +kernel
theorem d_MO_may_60 : decode b_MO_may 60 = .ok (.bipush 27, 2) := by decide +kernel
theorem d_MO_may_62 : decode b_MO_may 62 = .ok (.if_icmp .eq 21, 3) := by decide +kernel
theorem d_MO_may_65 : decode b_MO_may 65 = .ok (.iload_n 0, 1) := by decide +kernel
theorem d_MO_may_66 : decode b_MO_may 66 = .ok (.bipush 60, 2) := by decide +kernel
theorem d_MO_may_68 : decode b_MO_may 68 = .ok (.if_icmp .eq 15, 3) := by decide +kernel
theorem d_MO_may_71 : decode b_MO_may 71 = .ok (.iload_n 0, 1) := by decide +kernel
theorem d_MO_may_72 : decode b_MO_may 72 = .ok (.bipush 17, 2) := by decide +kernel
theorem d_MO_may_74 : decode b_MO_may 74 = .ok (.if_icmp .eq 9, 3) := by decide +kernel
theorem d_MO_may_77 : decode b_MO_may 77 = .ok (.iload_n 0, 1) := by decide +kernel
theorem d_MO_may_78 : decode b_MO_may 78 = .ok (.bipush 25, 2) := by decide +kernel
theorem d_MO_may_80 : decode b_MO_may 80 = .ok (.if_icmp .ne 5, 3) := by decide +kernel
theorem d_MO_may_83 : decode b_MO_may 83 = .ok (.iload_n 2, 1) := by decide +kernel
theorem d_MO_may_84 : decode b_MO_may 84 = .ok (.ireturn, 1) := by decide +kernel
theorem d_MO_may_85 : decode b_MO_may 85 = .ok (.iload_n 0, 1) := by decide +kernel
theorem d_MO_may_86 : decode b_MO_may 86 = .ok (.lookupswitch 200 #[(1, 121), (2, 121), (4, 121), (21, 109), (37, 158), (40, 147), (50, 82), (56, 147), (59, 184)], 82) := by decide +kernel
theorem d_MO_may_168 : decode b_MO_may 168 = .ok (.iload_n 1, 1) := by decide +kernel
theorem d_MO_may_169 : decode b_MO_may 169 = .ok (.iconst 1, 1) := by decide +kernel
theorem d_MO_may_170 : decode b_MO_may 170 = .ok (.if_icmp .eq 19, 3) := by decide +kernel
theorem d_MO_may_173 : decode b_MO_may 173 = .ok (.iload_n 1, 1) := by decide +kernel
theorem d_MO_may_174 : decode b_MO_may 174 = .ok (.iconst 4, 1) := by decide +kernel
theorem d_MO_may_175 : decode b_MO_may 175 = .ok (.if_icmp .eq 14, 3) := by decide +kernel
theorem d_MO_may_178 : decode b_MO_may 178 = .ok (.iload_n 1, 1) := by decide +kernel
theorem d_MO_may_179 : decode b_MO_may 179 = .ok (.iconst 5, 1) := by decide +kernel
theorem d_MO_may_180 : decode b_MO_may 180 = .ok (.if_icmp .eq 9, 3) := by decide +kernel
theorem d_MO_may_183 : decode b_MO_may 183 = .ok (.iload_n 1, 1) := by decide +kernel
theorem d_MO_may_184 : decode b_MO_may 184 = .ok (.bipush 8, 2) := by decide +kernel
theorem d_MO_may_186 : decode b_MO_may 186 = .ok (.if_icmp .ne 7, 3) := by decide +kernel
theorem d_MO_may_189 : decode b_MO_may 189 = .ok (.iconst 1, 1) := by decide +kernel
theorem d_MO_may_190 : decode b_MO_may 190 = .ok (.goto 4, 3) := by decide +kernel
theorem d_MO_may_193 : decode b_MO_may 193 = .ok (.iconst 0, 1) := by decide +kernel
theorem d_MO_may_194 : decode b_MO_may 194 = .ok (.ireturn, 1) := by decide +kernel
theorem d_MO_may_195 : decode b_MO_may 195 = .ok (.iload_n 1, 1) := by decide +kernel
theorem d_MO_may_196 : decode b_MO_may 196 = .ok (.bipush 8, 2) := by decide +kernel
theorem d_MO_may_198 : decode b_MO_may 198 = .ok (.if_icmp .ne 7, 3) := by decide +kernel
theorem d_MO_may_201 : decode b_MO_may 201 = .ok (.iconst 1, 1) := by decide +kernel
theorem d_MO_may_202 : decode b_MO_may 202 = .ok (.goto 4, 3) := by decide +kernel
theorem d_MO_may_205 : decode b_MO_may 205 = .ok (.iconst 0, 1) := by decide +kernel
theorem d_MO_may_206 : decode b_MO_may 206 = .ok (.ireturn, 1) := by decide +kernel
theorem d_MO_may_207 : decode b_MO_may 207 = .ok (.iload_n 1, 1) := by decide +kernel
theorem d_MO_may_208 : decode b_MO_may 208 = .ok (.iconst 1, 1) := by decide +kernel
theorem d_MO_may_209 : decode b_MO_may 209 = .ok (.if_icmp .eq 18, 3) := by decide +kernel
theorem d_MO_may_212 : decode b_MO_may 212 = .ok (.iload_n 1, 1) := by decide +kernel
theorem d_MO_may_213 : decode b_MO_may 213 = .ok (.iconst 2, 1) := by decide +kernel
theorem d_MO_may_214 : decode b_MO_may 214 = .ok (.if_icmp .eq 13, 3) := by decide +kernel
theorem d_MO_may_217 : decode b_MO_may 217 = .ok (.iload_n 1, 1) := by decide +kernel
theorem d_MO_may_218 : decode b_MO_may 218 = .ok (.iconst 4, 1) := by decide +kernel
theorem d_MO_may_219 : decode b_MO_may 219 = .ok (.if_icmp .eq 8, 3) := by decide +kernel
theorem d_MO_may_222 : decode b_MO_may 222 = .ok (.iload_n 1, 1) := by decide +kernel
theorem d_MO_may_223 : decode b_MO_may 223 = .ok (.iconst 5, 1) := by decide +kernel
theorem d_MO_may_224 : decode b_MO_may 224 = .ok (.if_icmp .ne 7, 3) := by decide +kernel
theorem d_MO_may_227 : decode b_MO_may 227 = .ok (.iconst 1, 1) := by decide +kernel
theorem d_MO_may_228 : decode b_MO_may 228 = .ok (.goto 4, 3) := by decide +kernel
theorem d_MO_may_231 : decode b_MO_may 231 = .ok (.iconst 0, 1) := by decide +kernel
theorem d_MO_may_232 : decode b_MO_may 232 = .ok (.ireturn, 1) := by decide +kernel
theorem d_MO_may_233 : decode b_MO_may 233 = .ok (.iload_n 1, 1) := by decide +kernel
theorem d_MO_may_234 : decode b_MO_may 234 = .ok (.iconst 4, 1) := by decide +kernel
theorem d_MO_may_235 : decode b_MO_may 235 = .ok (.if_icmp .ne 7, 3) := by decide +kernel
theorem d_MO_may_238 : decode b_MO_may 238 = .ok (.iconst 1, 1) := by decide +kernel
theorem d_MO_may_239 : decode b_MO_may 239 = .ok (.goto 4, 3) := by decide +kernel
theorem d_MO_may_242 : decode b_MO_may 242 = .ok (.iconst 0, 1) := by decide +kernel
theorem d_MO_may_243 : decode b_MO_may 243 = .ok (.ireturn, 1) := by decide +kernel
theorem d_MO_may_244 : decode b_MO_may 244 = .ok (.iload_n 2, 1) := by decide +kernel
theorem d_MO_may_245 : decode b_MO_may 245 = .ok (.ifCond .ne 19, 3) := by decide +kernel
theorem d_MO_may_248 : decode b_MO_may 248 = .ok (.iload_n 1, 1) := by decide +kernel
theorem d_MO_may_249 : decode b_MO_may 249 = .ok (.iconst 2, 1) := by decide +kernel
theorem d_MO_may_250 : decode b_MO_may 250 = .ok (.if_icmp .eq 14, 3) := by decide +kernel
theorem d_MO_may_253 : decode b_MO_may 253 = .ok (.iload_n 1, 1) := by decide +kernel
theorem d_MO_may_254 : decode b_MO_may 254 = .ok (.iconst 5, 1) := by decide +kernel
theorem d_MO_may_255 : decode b_MO_may 255 = .ok (.if_icmp .eq 9, 3) := by decide +kernel
theorem d_MO_may_258 : decode b_MO_may 258 = .ok (.iload_n 1, 1) := by decide +kernel
theorem d_MO_may_259 : decode b_MO_may 259 = .ok (.bipush 8, 2) := by decide +kernel
theorem d_MO_may_261 : decode b_MO_may 261 = .ok (.if_icmp .ne 7, 3) := by decide +kernel
theorem d_MO_may_264 : decode b_MO_may 264 = .ok (.iconst 1, 1) := by decide +kernel
theorem d_MO_may_265 : decode b_MO_may 265 = .ok (.goto 4, 3) := by decide +kernel
theorem d_MO_may_268 : decode b_MO_may 268 = .ok (.iconst 0, 1) := by decide +kernel
theorem d_MO_may_269 : decode b_MO_may 269 = .ok (.ireturn, 1) := by decide +kernel
theorem d_MO_may_270 : decode b_MO_may 270 = .ok (.iload_n 1, 1) := by decide +kernel
theorem d_MO_may_271 : decode b_MO_may 271 = .ok (.iconst 1, 1) := by decide +kernel
theorem d_MO_may_272 : decode b_MO_may 272 = .ok (.if_icmp .eq 8, 3) := by decide +kernel
theorem d_MO_may_275 : decode b_MO_may 275 = .ok (.iload_n 1, 1) := by decide +kernel
theorem d_MO_may_276 : decode b_MO_may 276 = .ok (.iconst 4, 1) := by decide +kernel
theorem d_MO_may_277 : decode b_MO_may 277 = .ok (.if_icmp .ne 7, 3) := by decide +kernel
theorem d_MO_may_280 : decode b_MO_may 280 = .ok (.iconst 1, 1) := by decide +kernel
theorem d_MO_may_281 : decode b_MO_may 281 = .ok (.goto 4, 3) := by decide +kernel
theorem d_MO_may_284 : decode b_MO_may 284 = .ok (.iconst 0, 1) := by decide +kernel
theorem d_MO_may_285 : decode b_MO_may 285 = .ok (.ireturn, 1) := by decide +kernel
theorem d_MO_may_286 : decode b_MO_may 286 = .ok (.iconst 0, 1) := by decide +kernel
theorem d_MO_may_287 : decode b_MO_may 287 = .ok (.ireturn, 1) := by decide +kernel
theorem d_MO_fetch_0 : decode b_MO_fetch 0 = .ok (.aload_n 0, 1) := by decide +kernel
theorem d_MO_fetch_1 : decode b_MO_fetch 1 = .ok (.aload_n 0, 1) := by decide +kernel
theorem d_MO_fetch_2 : decode b_MO_fetch 2 = .ok (.getfield 65, 3) := by decide +kernel
theorem d_MO_fetch_5 : decode b_MO_fetch 5 = .ok (.invokevirtual 46, 3) := by decide +kernel
theorem d_MO_fetch_8 : decode b_MO_fetch 8 = .ok (.ifCond .ne 5, 3) := by decide +kernel
theorem d_MO_fetch_11 : decode b_MO_fetch 11 = .ok (.iconst 2, 1) := by decide +kernel
theorem d_MO_fetch_12 : decode b_MO_fetch 12 = .ok (.ireturn, 1) := by decide +kernel
theorem d_MO_fetch_13 : decode b_MO_fetch 13 = .ok (.aload_n 0, 1) := by decide +kernel
theorem d_MO_fetch_14 : decode b_MO_fetch 14 = .ok (.getfield 13, 3) := by decide +kernel
theorem d_MO_fetch_17 : decode b_MO_fetch 17 = .ok (.aload_n 0, 1) := by decide +kernel
theorem d_MO_fetch_18 : decode b_MO_fetch 18 = .ok (.getfield 65, 3) := by decide +kernel
theorem d_MO_fetch_21 : decode b_MO_fetch 21 = .ok (.baload, 1) := by decide +kernel
theorem d_MO_fetch_22 : decode b_MO_fetch 22 = .ok (.ifCond .ne 5, 3) := by decide +kernel
theorem d_MO_fetch_25 : decode b_MO_fetch 25 = .ok (.iconst 1, 1) := by decide +kernel
theorem d_MO_fetch_26 : decode b_MO_fetch 26 = .ok (.ireturn, 1) := by decide +kernel
theorem d_MO_fetch_27 : decode b_MO_fetch 27 = .ok (.iconst 1, 1) := by decide +kernel
theorem d_MO_fetch_28 : decode b_MO_fetch 28 = .ok (.istore_n 1, 1) := by decide +kernel
theorem d_MO_fetch_29 : decode b_MO_fetch 29 = .ok (.iload_n 1, 1) := by decide +kernel
theorem d_MO_fetch_30 : decode b_MO_fetch 30 = .ok (.bipush 9, 2) := by decide +kernel
theorem d_MO_fetch_32 : decode b_MO_fetch 32 = .ok (.if_icmp .ge 53, 3) := by decide +kernel
theorem d_MO_fetch_35 : decode b_MO_fetch 35 = .ok (.aload_n 0, 1) := by decide +kernel
theorem d_MO_fetch_36 : decode b_MO_fetch 36 = .ok (.aload_n 0, 1) := by decide +kernel
theorem d_MO_fetch_37 : decode b_MO_fetch 37 = .ok (.getfield 65, 3) := by decide +kernel
theorem d_MO_fetch_40 : decode b_MO_fetch 40 = .ok (.iload_n 1, 1) := by decide +kernel
theorem d_MO_fetch_41 : decode b_MO_fetch 41 = .ok (.iadd, 1) := by decide +kernel
theorem d_MO_fetch_42 : decode b_MO_fetch 42 = .ok (.invokevirtual 46, 3) := by decide +kernel
theorem d_MO_fetch_45 : decode b_MO_fetch 45 = .ok (.ifCond .eq 40, 3) := by decide +kernel
theorem d_MO_fetch_48 : decode b_MO_fetch 48 = .ok (.aload_n 0, 1) := by decide +kernel
theorem d_MO_fetch_49 : decode b_MO_fetch 49 = .ok (.getfield 13, 3) := by decide +kernel
theorem d_MO_fetch_52 : decode b_MO_fetch 52 = .ok (.aload_n 0, 1) := by decide +kernel
theorem d_MO_fetch_53 : decode b_MO_fetch 53 = .ok (.aload_n 0, 1) := by decide +kernel
theorem d_MO_fetch_54 : decode b_MO_fetch 54 = .ok (.getfield 65, 3) := by decide +kernel
theorem d_MO_fetch_57 : decode b_MO_fetch 57 = .ok (.iload_n 1, 1) := by decide +kernel
theorem d_MO_fetch_58 : decode b_MO_fetch 58 = .ok (.iadd, 1) := by decide +kernel
theorem d_MO_fetch_59 : decode b_MO_fetch 59 = .ok (.invokevirtual 46, 3) := by decide +kernel
theorem d_MO_fetch_62 : decode b_MO_fetch 62 = .ok (.ifCond .eq 12, 3) := by decide +kernel
theorem d_MO_fetch_65 : decode b_MO_fetch 65 = .ok (.aload_n 0, 1) := by decide +kernel
theorem d_MO_fetch_66 : decode b_MO_fetch 66 = .ok (.getfield 65, 3) := by decide +kernel
theorem d_MO_fetch_69 : decode b_MO_fetch 69 = .ok (.iload_n 1, 1) := by decide +kernel
theorem d_MO_fetch_70 : decode b_MO_fetch 70 = .ok (.iadd, 1) := by decide +kernel
theorem d_MO_fetch_71 : decode b_MO_fetch 71 = .ok (.goto 4, 3) := by decide +kernel
theorem d_MO_fetch_74 : decode b_MO_fetch 74 = .ok (.iconst 0, 1) := by decide +kernel
theorem d_MO_fetch_75 : decode b_MO_fetch 75 = .ok (.baload, 1) := by decide +kernel
theorem d_MO_fetch_76 : decode b_MO_fetch 76 = .ok (.ifCond .ne 9, 3) := by decide +kernel
theorem d_MO_fetch_79 : decode b_MO_fetch 79 = .ok (.iinc 1 1, 3) := by decide +kernel
theorem d_MO_fetch_82 : decode b_MO_fetch 82 = .ok (.goto (-53), 3) := by decide +kernel
theorem d_MO_fetch_85 : decode b_MO_fetch 85 = .ok (.iload_n 1, 1) := by decide +kernel
theorem d_MO_fetch_86 : decode b_MO_fetch 86 = .ok (.bipush 9, 2) := by decide +kernel
theorem d_MO_fetch_88 : decode b_MO_fetch 88 = .ok (.if_icmp .eq 32, 3) := by decide +kernel
theorem d_MO_fetch_91 : decode b_MO_fetch 91 = .ok (.aload_n 0, 1) := by decide +kernel
theorem d_MO_fetch_92 : decode b_MO_fetch 92 = .ok (.aload_n 0, 1) := by decide +kernel
theorem d_MO_fetch_93 : decode b_MO_fetch 93 = .ok (.getfield 65, 3) := by decide +kernel
theorem d_MO_fetch_96 : decode b_MO_fetch 96 = .ok (.iload_n 1, 1) := by decide +kernel
theorem d_MO_fetch_97 : decode b_MO_fetch 97 = .ok (.iadd, 1) := by decide +kernel
theorem d_MO_fetch_98 : decode b_MO_fetch 98 = .ok (.invokevirtual 46, 3) := by decide +kernel
theorem d_MO_fetch_101 : decode b_MO_fetch 101 = .ok (.ifCond .eq 19, 3) := by decide +kernel
theorem d_MO_fetch_104 : decode b_MO_fetch 104 = .ok (.aload_n 0, 1) := by decide +kernel
theorem d_MO_fetch_105 : decode b_MO_fetch 105 = .ok (.getfield 7, 3) := by decide +kernel
theorem d_MO_fetch_108 : decode b_MO_fetch 108 = .ok (.aload_n 0, 1) := by decide +kernel
theorem d_MO_fetch_109 : decode b_MO_fetch 109 = .ok (.getfield 65, 3) := by decide +kernel
theorem d_MO_fetch_112 : decode b_MO_fetch 112 = .ok (.baload, 1) := by decide +kernel
theorem d_MO_fetch_113 : decode b_MO_fetch 113 = .ok (.iload_n 1, 1) := by decide +kernel
theorem d_MO_fetch_114 : decode b_MO_fetch 114 = .ok (.invokestatic 158, 3) := by decide +kernel
theorem d_MO_fetch_117 : decode b_MO_fetch 117 = .ok (.ifCond .ne 5, 3) := by decide +kernel
theorem d_MO_fetch_120 : decode b_MO_fetch 120 = .ok (.iconst 3, 1) := by decide +kernel
theorem d_MO_fetch_121 : decode b_MO_fetch 121 = .ok (.ireturn, 1) := by decide +kernel
theorem d_MO_fetch_122 : decode b_MO_fetch 122 = .ok (.aload_n 0, 1) := by decide +kernel
theorem d_MO_fetch_123 : decode b_MO_fetch 123 = .ok (.aload_n 0, 1) := by decide +kernel
theorem d_MO_fetch_124 : decode b_MO_fetch 124 = .ok (.getfield 65, 3) := by decide +kernel
theorem d_MO_fetch_127 : decode b_MO_fetch 127 = .ok (.putfield 125, 3) := by decide +kernel
theorem d_MO_fetch_130 : decode b_MO_fetch 130 = .ok (.aload_n 0, 1) := by decide +kernel
theorem d_MO_fetch_131 : decode b_MO_fetch 131 = .ok (.iload_n 1, 1) := by decide +kernel
theorem d_MO_fetch_132 : decode b_MO_fetch 132 = .ok (.putfield 119, 3) := by decide +kernel
theorem d_MO_fetch_135 : decode b_MO_fetch 135 = .ok (.aload_n 0, 1) := by decide +kernel
theorem d_MO_fetch_136 : decode b_MO_fetch 136 = .ok (.aload_n 0, 1) := by decide +kernel
theorem d_MO_fetch_137 : decode b_MO_fetch 137 = .ok (.getfield 7, 3) := by decide +kernel
theorem d_MO_fetch_140 : decode b_MO_fetch 140 = .ok (.aload_n 0, 1) := by decide +kernel
theorem d_MO_fetch_141 : decode b_MO_fetch 141 = .ok (.getfield 65, 3) := by decide +kernel
theorem d_MO_fetch_144 : decode b_MO_fetch 144 = .ok (.baload, 1) := by decide +kernel
theorem d_MO_fetch_145 : decode b_MO_fetch 145 = .ok (.putfield 91, 3) := by decide +kernel
theorem d_MO_fetch_148 : decode b_MO_fetch 148 = .ok (.aload_n 0, 1) := by decide +kernel
theorem d_MO_fetch_149 : decode b_MO_fetch 149 = .ok (.aload_n 0, 1) := by decide +kernel
theorem d_MO_fetch_150 : decode b_MO_fetch 150 = .ok (.getfield 85, 3) := by decide +kernel
theorem d_MO_fetch_153 : decode b_MO_fetch 153 = .ok (.putfield 149, 3) := by decide +kernel
theorem d_MO_fetch_156 : decode b_MO_fetch 156 = .ok (.aload_n 0, 1) := by decide +kernel
theorem d_MO_fetch_157 : decode b_MO_fetch 157 = .ok (.aload_n 0, 1) := by decide +kernel
theorem d_MO_fetch_158 : decode b_MO_fetch 158 = .ok (.getfield 75, 3) := by decide +kernel
theorem d_MO_fetch_161 : decode b_MO_fetch 161 = .ok (.putfield 152, 3) := by decide +kernel
theorem d_MO_fetch_164 : decode b_MO_fetch 164 = .ok (.aload_n 0, 1) := by decide +kernel
theorem d_MO_fetch_165 : decode b_MO_fetch 165 = .ok (.dup, 1) := by decide +kernel
theorem d_MO_fetch_166 : decode b_MO_fetch 166 = .ok (.getfield 65, 3) := by decide +kernel
theorem d_MO_fetch_169 : decode b_MO_fetch 169 = .ok (.iload_n 1, 1) := by decide +kernel
theorem d_MO_fetch_170 : decode b_MO_fetch 170 = .ok (.iadd, 1) := by decide +kernel
theorem d_MO_fetch_171 : decode b_MO_fetch 171 = .ok (.putfield 65, 3) := by decide +kernel
theorem d_MO_fetch_174 : decode b_MO_fetch 174 = .ok (.iload_n 1, 1) := by decide +kernel
theorem d_MO_fetch_175 : decode b_MO_fetch 175 = .ok (.iconst 4, 1) := by decide +kernel
theorem d_MO_fetch_176 : decode b_MO_fetch 176 = .ok (.if_icmp .lt 17, 3) := by decide +kernel
theorem d_MO_fetch_179 : decode b_MO_fetch 179 = .ok (.aload_n 0, 1) := by decide +kernel
theorem d_MO_fetch_180 : decode b_MO_fetch 180 = .ok (.aload_n 0, 1) := by decide +kernel
theorem d_MO_fetch_181 : decode b_MO_fetch 181 = .ok (.aload_n 0, 1) := by decide +kernel
theorem d_MO_fetch_182 : decode b_MO_fetch 182 = .ok (.getfield 125, 3) := by decide +kernel
theorem d_MO_fetch_185 : decode b_MO_fetch 185 = .ok (.iconst 1, 1) := by decide +kernel
theorem d_MO_fetch_186 : decode b_MO_fetch 186 = .ok (.iadd, 1) := by decide +kernel
theorem d_MO_fetch_187 : decode b_MO_fetch 187 = .ok (.invokevirtual 162, 3) := by decide +kernel
theorem d_MO_fetch_190 : decode b_MO_fetch 190 = .ok (.putfield 85, 3) := by decide +kernel
theorem d_MO_fetch_193 : decode b_MO_fetch 193 = .ok (.aload_n 0, 1) := by decide +kernel
theorem d_MO_fetch_194 : decode b_MO_fetch 194 = .ok (.getfield 91, 3) := by decide +kernel
theorem d_MO_fetch_197 : decode b_MO_fetch 197 = .ok (.bipush 36, 2) := by decide +kernel
theorem d_MO_fetch_199 : decode b_MO_fetch 199 = .ok (.if_icmp .eq 48, 3) := by decide +kernel
theorem d_MO_fetch_202 : decode b_MO_fetch 202 = .ok (.aload_n 0, 1) := by decide +kernel
theorem d_MO_fetch_203 : decode b_MO_fetch 203 = .ok (.getfield 91, 3) := by decide +kernel
theorem d_MO_fetch_206 : decode b_MO_fetch 206 = .ok (.bipush 35, 2) := by decide +kernel
theorem d_MO_fetch_208 : decode b_MO_fetch 208 = .ok (.if_icmp .eq 39, 3) := by decide +kernel
theorem d_MO_fetch_211 : decode b_MO_fetch 211 = .ok (.aload_n 0, 1) := by decide +kernel
theorem d_MO_fetch_212 : decode b_MO_fetch 212 = .ok (.getfield 91, 3) := by decide +kernel
theorem d_MO_fetch_215 : decode b_MO_fetch 215 = .ok (.bipush 52, 2) := by decide +kernel
theorem d_MO_fetch_217 : decode b_MO_fetch 217 = .ok (.if_icmp .eq 30, 3) := by decide +kernel
theorem d_MO_fetch_220 : decode b_MO_fetch 220 = .ok (.aload_n 0, 1) := by decide +kernel
theorem d_MO_fetch_221 : decode b_MO_fetch 221 = .ok (.getfield 91, 3) := by decide +kernel
theorem d_MO_fetch_224 : decode b_MO_fetch 224 = .ok (.bipush 24, 2) := by decide +kernel
theorem d_MO_fetch_226 : decode b_MO_fetch 226 = .ok (.if_icmp .eq 21, 3) := by decide +kernel
theorem d_MO_fetch_229 : decode b_MO_fetch 229 = .ok (.aload_n 0, 1) := by decide +kernel
theorem d_MO_fetch_230 : decode b_MO_fetch 230 = .ok (.getfield 91, 3) := by decide +kernel
theorem d_MO_fetch_233 : decode b_MO_fetch 233 = .ok (.bipush 40, 2) := by decide +kernel
theorem d_MO_fetch_235 : decode b_MO_fetch 235 = .ok (.if_icmp .eq 12, 3) := by decide +kernel
theorem d_MO_fetch_238 : decode b_MO_fetch 238 = .ok (.aload_n 0, 1) := by decide +kernel
theorem d_MO_fetch_239 : decode b_MO_fetch 239 = .ok (.getfield 91, 3) := by decide +kernel
theorem d_MO_fetch_242 : decode b_MO_fetch 242 = .ok (.bipush 56, 2) := by decide +kernel
theorem d_MO_fetch_244 : decode b_MO_fetch 244 = .ok (.if_icmp .ne 7, 3) := by decide +kernel
theorem d_MO_fetch_247 : decode b_MO_fetch 247 = .ok (.iconst 1, 1) := by decide +kernel
theorem d_MO_fetch_248 : decode b_MO_fetch 248 = .ok (.goto 4, 3) := by decide +kernel
theorem d_MO_fetch_251 : decode b_MO_fetch 251 = .ok (.iconst 0, 1) := by decide +kernel
theorem d_MO_fetch_252 : decode b_MO_fetch 252 = .ok (.istore_n 2, 1) := by decide +kernel
theorem d_MO_fetch_253 : decode b_MO_fetch 253 = .ok (.iload_n 1, 1) := by decide +kernel
theorem d_MO_fetch_254 : decode b_MO_fetch 254 = .ok (.bipush 7, 2) := by decide +kernel
theorem d_MO_fetch_256 : decode b_MO_fetch 256 = .ok (.if_icmp .lt 20, 3) := by decide +kernel
theorem d_MO_fetch_259 : decode b_MO_fetch 259 = .ok (.aload_n 0, 1) := by decide +kernel
theorem d_MO_fetch_260 : decode b_MO_fetch 260 = .ok (.aload_n 0, 1) := by decide +kernel
theorem d_MO_fetch_261 : decode b_MO_fetch 261 = .ok (.aload_n 0, 1) := by decide +kernel
theorem d_MO_fetch_262 : decode b_MO_fetch 262 = .ok (.getfield 125, 3) := by decide +kernel
theorem d_MO_fetch_265 : decode b_MO_fetch 265 = .ok (.iconst 4, 1) := by decide +kernel
theorem d_MO_fetch_266 : decode b_MO_fetch 266 = .ok (.iadd, 1) := by decide +kernel
theorem d_MO_fetch_267 : decode b_MO_fetch 267 = .ok (.invokevirtual 162, 3) := by decide +kernel
theorem d_MO_fetch_270 : decode b_MO_fetch 270 = .ok (.putfield 75, 3) := by decide +kernel
theorem d_MO_fetch_273 : decode b_MO_fetch 273 = .ok (.goto 20, 3) := by decide +kernel
theorem d_MO_fetch_276 : decode b_MO_fetch 276 = .ok (.iload_n 1, 1) := by decide +kernel
theorem d_MO_fetch_277 : decode b_MO_fetch 277 = .ok (.iconst 4, 1) := by decide +kernel
theorem d_MO_fetch_278 : decode b_MO_fetch 278 = .ok (.if_icmp .lt 15, 3) := by decide +kernel
theorem d_MO_fetch_281 : decode b_MO_fetch 281 = .ok (.iload_n 2, 1) := by decide +kernel
theorem d_MO_fetch_282 : decode b_MO_fetch 282 = .ok (.ifCond .ne 11, 3) := by decide +kernel
theorem d_MO_fetch_285 : decode b_MO_fetch 285 = .ok (.aload_n 0, 1) := by decide +kernel
theorem d_MO_fetch_286 : decode b_MO_fetch 286 = .ok (.aload_n 0, 1) := by decide +kernel
theorem d_MO_fetch_287 : decode b_MO_fetch 287 = .ok (.getfield 85, 3) := by decide +kernel
theorem d_MO_fetch_290 : decode b_MO_fetch 290 = .ok (.putfield 75, 3) := by decide +kernel
theorem d_MO_fetch_293 : decode b_MO_fetch 293 = .ok (.iconst 0, 1) := by decide +kernel
theorem d_MO_fetch_294 : decode b_MO_fetch 294 = .ok (.ireturn, 1) := by decide +kernel
theorem d_MO_stopHere_0 : decode b_MO_stopHere 0 = .ok (.aload_n 0, 1) := by decide +kernel
theorem d_MO_stopHere_1 : decode b_MO_stopHere 1 = .ok (.getfield 119, 3) := by decide +kernel
theorem d_MO_stopHere_4 : decode b_MO_stopHere 4 = .ok (.iconst 4, 1) := by decide +kernel
theorem d_MO_stopHere_5 : decode b_MO_stopHere 5 = .ok (.if_icmp .ne 7, 3) := by decide +kernel
theorem d_MO_stopHere_8 : decode b_MO_stopHere 8 = .ok (.aload_n 0, 1) := by decide +kernel
theorem d_MO_stopHere_9 : decode b_MO_stopHere 9 = .ok (.invokevirtual 122, 3) := by decide +kernel
theorem d_MO_stopHere_12 : decode b_MO_stopHere 12 = .ok (.bipush 6, 2) := by decide +kernel
theorem d_MO_stopHere_14 : decode b_MO_stopHere 14 = .ok (.ireturn, 1) := by decide +kernel
theorem d_MO_execute_0 : decode b_MO_execute 0 = .ok (.aload_n 0, 1) := by decide +kernel
theorem d_MO_execute_1 : decode b_MO_execute 1 = .ok (.getfield 91, 3) := by decide +kernel
theorem d_MO_execute_4 : decode b_MO_execute 4 = .ok (.invokestatic 155, 3) := by decide +kernel
theorem d_MO_execute_7 : decode b_MO_execute 7 = .ok (.ifCond .eq 33, 3) := by decide +kernel
theorem d_MO_execute_10 : decode b_MO_execute 10 = .ok (.aload_n 0, 1) := by decide +kernel
theorem d_MO_execute_11 : decode b_MO_execute 11 = .ok (.getfield 91, 3) := by decide +kernel
theorem d_MO_execute_14 : decode b_MO_execute 14 = .ok (.bipush 49, 2) := by decide +kernel
theorem d_MO_execute_16 : decode b_MO_execute 16 = .ok (.if_icmp .eq 12, 3) := by decide +kernel
theorem d_MO_execute_19 : decode b_MO_execute 19 = .ok (.aload_n 0, 1) := by decide +kernel
theorem d_MO_execute_20 : decode b_MO_execute 20 = .ok (.getfield 91, 3) := by decide +kernel
theorem d_MO_execute_23 : decode b_MO_execute 23 = .ok (.bipush 18, 2) := by decide +kernel
theorem d_MO_execute_25 : decode b_MO_execute 25 = .ok (.if_icmp .ne 10, 3) := by decide +kernel
theorem d_MO_execute_28 : decode b_MO_execute 28 = .ok (.aload_n 0, 1) := by decide +kernel
theorem d_MO_execute_29 : decode b_MO_execute 29 = .ok (.invokevirtual 165, 3) := by decide +kernel
theorem d_MO_execute_32 : decode b_MO_execute 32 = .ok (.goto 7, 3) := by decide +kernel
theorem d_MO_execute_35 : decode b_MO_execute 35 = .ok (.aload_n 0, 1) := by decide +kernel
theorem d_MO_execute_36 : decode b_MO_execute 36 = .ok (.invokevirtual 168, 3) := by decide +kernel
theorem d_MO_execute_39 : decode b_MO_execute 39 = .ok (.ireturn, 1) := by decide +kernel
theorem d_MO_execute_40 : decode b_MO_execute 40 = .ok (.aload_n 0, 1) := by decide +kernel
theorem d_MO_execute_41 : decode b_MO_execute 41 = .ok (.getfield 91, 3) := by decide +kernel
theorem d_MO_execute_44 : decode b_MO_execute 44 = .ok (.tableswitch 316 1 60 #[301, 301, 316, 301, 316, 316, 316, 316, 316, 316, 316, 316, 316, 316, 316, 316, 281, 316, 316, 316, 296, 316, 316, 266, 286, 316, 276, 316, 316, 316, 316, 316, 316, 316, 261, 256, 316, 316, 316, 306, 316, 316, 316, 316, 316, 316, 316, 316, 316, 291, 271, 266, 316, 316, 316, 306, 316, 316, 311, 276], 256) := by decide +kernel
theorem d_MO_execute_300 : decode b_MO_execute 300 = .ok (.aload_n 0, 1) := by decide +kernel
theorem d_MO_execute_301 : decode b_MO_execute 301 = .ok (.invokevirtual 171, 3) := by decide +kernel
theorem d_MO_execute_304 : decode b_MO_execute 304 = .ok (.ireturn, 1) := by decide +kernel
theorem d_MO_execute_305 : decode b_MO_execute 305 = .ok (.aload_n 0, 1) := by decide +kernel
theorem d_MO_execute_306 : decode b_MO_execute 306 = .ok (.invokevirtual 174, 3) := by decide +kernel
theorem d_MO_execute_309 : decode b_MO_execute 309 = .ok (.ireturn, 1) := by decide +kernel
theorem d_MO_execute_310 : decode b_MO_execute 310 = .ok (.aload_n 0, 1) := by decide +kernel
theorem d_MO_execute_311 : decode b_MO_execute 311 = .ok (.invokevirtual 177, 3) := by decide +kernel
theorem d_MO_execute_314 : decode b_MO_execute 314 = .ok (.ireturn, 1) := by decide +kernel
theorem d_MO_execute_315 : decode b_MO_execute 315 = .ok (.aload_n 0, 1) := by decide +kernel
theorem d_MO_execute_316 : decode b_MO_execute 316 = .ok (.invokevirtual 180, 3) := by decide +kernel
theorem d_MO_execute_319 : decode b_MO_execute 319 = .ok (.ireturn, 1) := by decide +kernel
theorem d_MO_execute_320 : decode b_MO_execute 320 = .ok (.aload_n 0, 1) := by decide +kernel
theorem d_MO_execute_321 : decode b_MO_execute 321 = .ok (.invokevirtual 183, 3) := by decide +kernel
theorem d_MO_execute_324 : decode b_MO_execute 324 = .ok (.ireturn, 1) := by decide +kernel
theorem d_MO_execute_325 : decode b_MO_execute 325 = .ok (.aload_n 0, 1) := by decide +kernel
theorem d_MO_execute_326 : decode b_MO_execute 326 = .ok (.invokevirtual 186, 3) := by decide +kernel
theorem d_MO_execute_329 : decode b_MO_execute 329 = .ok (.ireturn, 1) := by decide +kernel
theorem d_MO_execute_330 : decode b_MO_execute 330 = .ok (.aload_n 0, 1) := by decide +kernel
theorem d_MO_execute_331 : decode b_MO_execute 331 = .ok (.invokevirtual 189, 3) := by decide +kernel
theorem d_MO_execute_334 : decode b_MO_execute 334 = .ok (.ireturn, 1) := by decide +kernel
theorem d_MO_execute_335 : decode b_MO_execute 335 = .ok (.aload_n 0, 1) := by decide +kernel
theorem d_MO_execute_336 : decode b_MO_execute 336 = .ok (.invokevirtual 192, 3) := by decide +kernel
theorem d_MO_execute_339 : decode b_MO_execute 339 = .ok (.ireturn, 1) := by decide +kernel
theorem d_MO_execute_340 : decode b_MO_execute 340 = .ok (.aload_n 0, 1) := by decide +kernel
theorem d_MO_execute_341 : decode b_MO_execute 341 = .ok (.invokevirtual 195, 3) := by decide +kernel
theorem d_MO_execute_344 : decode b_MO_execute 344 = .ok (.ireturn, 1) := by decide +kernel
theorem d_MO_execute_345 : decode b_MO_execute 345 = .ok (.aload_n 0, 1) := by decide +kernel
theorem d_MO_execute_346 : decode b_MO_execute 346 = .ok (.invokevirtual 198, 3) := by decide +kernel
theorem d_MO_execute_349 : decode b_MO_execute 349 = .ok (.ireturn, 1) := by decide +kernel
theorem d_MO_execute_350 : decode b_MO_execute 350 = .ok (.aload_n 0, 1) := by decide +kernel
theorem d_MO_execute_351 : decode b_MO_execute 351 = .ok (.invokevirtual 201, 3) := by decide +kernel
theorem d_MO_execute_354 : decode b_MO_execute 354 = .ok (.ireturn, 1) := by decide +kernel
theorem d_MO_execute_355 : decode b_MO_execute 355 = .ok (.aload_n 0, 1) := by decide +kernel
theorem d_MO_execute_356 : decode b_MO_execute 356 = .ok (.invokevirtual 204, 3) := by decide +kernel
theorem d_MO_execute_359 : decode b_MO_execute 359 = .ok (.ireturn, 1) := by decide +kernel
theorem d_MO_execute_360 : decode b_MO_execute 360 = .ok (.iconst 0, 1) := by decide +kernel
theorem d_MO_execute_361 : decode b_MO_execute 361 = .ok (.ireturn, 1) := by decide +kernel
theorem d_MO_run_0 : decode b_MO_run 0 = .ok (.aload_n 0, 1) := by decide +kernel
theorem d_MO_run_1 : decode b_MO_run 1 = .ok (.iload_n 1, 1) := by decide +kernel
theorem d_MO_run_2 : decode b_MO_run 2 = .ok (.iconst 1, 1) := by decide +kernel
theorem d_MO_run_3 : decode b_MO_run 3 = .ok (.if_icmp .lt 10, 3) := by decide +kernel
theorem d_MO_run_6 : decode b_MO_run 6 = .ok (.iload_n 1, 1) := by decide +kernel
theorem d_MO_run_7 : decode b_MO_run 7 = .ok (.sipush 20000, 3) := by decide +kernel
theorem d_MO_run_10 : decode b_MO_run 10 = .ok (.if_icmp .le 7, 3) := by decide +kernel
theorem d_MO_run_13 : decode b_MO_run 13 = .ok (.iconst 1, 1) := by decide +kernel
theorem d_MO_run_14 : decode b_MO_run 14 = .ok (.goto 4, 3) := by decide +kernel
theorem d_MO_run_17 : decode b_MO_run 17 = .ok (.iconst 0, 1) := by decide +kernel
theorem d_MO_run_18 : decode b_MO_run 18 = .ok (.putfield 43, 3) := by decide +kernel
theorem d_MO_run_21 : decode b_MO_run 21 = .ok (.aload_n 0, 1) := by decide +kernel
theorem d_MO_run_22 : decode b_MO_run 22 = .ok (.getfield 43, 3) := by decide +kernel
theorem d_MO_run_25 : decode b_MO_run 25 = .ok (.ifCond .le 5, 3) := by decide +kernel
theorem d_MO_run_28 : decode b_MO_run 28 = .ok (.iconst 0, 1) := by decide +kernel
theorem d_MO_run_29 : decode b_MO_run 29 = .ok (.ireturn, 1) := by decide +kernel
theorem d_MO_run_30 : decode b_MO_run 30 = .ok (.aload_n 0, 1) := by decide +kernel
theorem d_MO_run_31 : decode b_MO_run 31 = .ok (.iconst 0, 1) := by decide +kernel
theorem d_MO_run_32 : decode b_MO_run 32 = .ok (.putfield 207, 3) := by decide +kernel
theorem d_MO_run_35 : decode b_MO_run 35 = .ok (.iconst 0, 1) := by decide +kernel
theorem d_MO_run_36 : decode b_MO_run 36 = .ok (.istore_n 2, 1) := by decide +kernel
theorem d_MO_run_37 : decode b_MO_run 37 = .ok (.iload_n 2, 1) := by decide +kernel
theorem d_MO_run_38 : decode b_MO_run 38 = .ok (.iload_n 1, 1) := by decide +kernel
theorem d_MO_run_39 : decode b_MO_run 39 = .ok (.if_icmp .ge 56, 3) := by decide +kernel
theorem d_MO_run_42 : decode b_MO_run 42 = .ok (.aload_n 0, 1) := by decide +kernel
theorem d_MO_run_43 : decode b_MO_run 43 = .ok (.getfield 207, 3) := by decide +kernel
theorem d_MO_run_46 : decode b_MO_run 46 = .ok (.ifCond .ne 49, 3) := by decide +kernel
theorem d_MO_run_49 : decode b_MO_run 49 = .ok (.aload_n 0, 1) := by decide +kernel
theorem d_MO_run_50 : decode b_MO_run 50 = .ok (.dup, 1) := by decide +kernel
theorem d_MO_run_51 : decode b_MO_run 51 = .ok (.getfield 210, 3) := by decide +kernel
theorem d_MO_run_54 : decode b_MO_run 54 = .ok (.iconst 1, 1) := by decide +kernel
theorem d_MO_run_55 : decode b_MO_run 55 = .ok (.iadd, 1) := by decide +kernel
theorem d_MO_run_56 : decode b_MO_run 56 = .ok (.putfield 210, 3) := by decide +kernel
theorem d_MO_run_59 : decode b_MO_run 59 = .ok (.aload_n 0, 1) := by decide +kernel
theorem d_MO_run_60 : decode b_MO_run 60 = .ok (.aload_n 0, 1) := by decide +kernel
theorem d_MO_run_61 : decode b_MO_run 61 = .ok (.invokevirtual 213, 3) := by decide +kernel
theorem d_MO_run_64 : decode b_MO_run 64 = .ok (.putfield 207, 3) := by decide +kernel
theorem d_MO_run_67 : decode b_MO_run 67 = .ok (.aload_n 0, 1) := by decide +kernel
theorem d_MO_run_68 : decode b_MO_run 68 = .ok (.aload_n 0, 1) := by decide +kernel
theorem d_MO_run_69 : decode b_MO_run 69 = .ok (.getfield 207, 3) := by decide +kernel
theorem d_MO_run_72 : decode b_MO_run 72 = .ok (.ifCond .ne 10, 3) := by decide +kernel
theorem d_MO_run_75 : decode b_MO_run 75 = .ok (.aload_n 0, 1) := by decide +kernel
theorem d_MO_run_76 : decode b_MO_run 76 = .ok (.invokevirtual 216, 3) := by decide +kernel
theorem d_MO_run_79 : decode b_MO_run 79 = .ok (.goto 7, 3) := by decide +kernel
theorem d_MO_run_82 : decode b_MO_run 82 = .ok (.aload_n 0, 1) := by decide +kernel
theorem d_MO_run_83 : decode b_MO_run 83 = .ok (.getfield 207, 3) := by decide +kernel
theorem d_MO_run_86 : decode b_MO_run 86 = .ok (.putfield 207, 3) := by decide +kernel
theorem d_MO_run_89 : decode b_MO_run 89 = .ok (.iinc 2 1, 3) := by decide +kernel
theorem d_MO_run_92 : decode b_MO_run 92 = .ok (.goto (-55), 3) := by decide +kernel
theorem d_MO_run_95 : decode b_MO_run 95 = .ok (.aload_n 0, 1) := by decide +kernel
theorem d_MO_run_96 : decode b_MO_run 96 = .ok (.getfield 207, 3) := by decide +kernel
theorem d_MO_run_99 : decode b_MO_run 99 = .ok (.ireturn, 1) := by decide +kernel
theorem d_MO_at_0 : decode b_MO_at 0 = .ok (.aload_n 0, 1) := by decide +kernel
theorem d_MO_at_1 : decode b_MO_at 1 = .ok (.aload_n 0, 1) := by decide +kernel
theorem d_MO_at_2 : decode b_MO_at 2 = .ok (.iload_n 1, 1) := by decide +kernel
theorem d_MO_at_3 : decode b_MO_at 3 = .ok (.invokevirtual 46, 3) := by decide +kernel
theorem d_MO_at_6 : decode b_MO_at 6 = .ok (.ifCond .eq 7, 3) := by decide +kernel
theorem d_MO_at_9 : decode b_MO_at 9 = .ok (.iconst 0, 1) := by decide +kernel
theorem d_MO_at_10 : decode b_MO_at 10 = .ok (.goto 4, 3) := by decide +kernel
theorem d_MO_at_13 : decode b_MO_at 13 = .ok (.iconst 1, 1) := by decide +kernel
theorem d_MO_at_14 : decode b_MO_at 14 = .ok (.putfield 43, 3) := by decide +kernel
theorem d_MO_at_17 : decode b_MO_at 17 = .ok (.aload_n 0, 1) := by decide +kernel
theorem d_MO_at_18 : decode b_MO_at 18 = .ok (.getfield 43, 3) := by decide +kernel
theorem d_MO_at_21 : decode b_MO_at 21 = .ok (.ifCond .le 7, 3) := by decide +kernel
theorem d_MO_at_24 : decode b_MO_at 24 = .ok (.iconst 0, 1) := by decide +kernel
theorem d_MO_at_25 : decode b_MO_at 25 = .ok (.goto 9, 3) := by decide +kernel
theorem d_MO_at_28 : decode b_MO_at 28 = .ok (.aload_n 0, 1) := by decide +kernel
theorem d_MO_at_29 : decode b_MO_at 29 = .ok (.getfield 7, 3) := by decide +kernel
theorem d_MO_at_32 : decode b_MO_at 32 = .ok (.iload_n 1, 1) := by decide +kernel
theorem d_MO_at_33 : decode b_MO_at 33 = .ok (.baload, 1) := by decide +kernel
theorem d_MO_at_34 : decode b_MO_at 34 = .ok (.ireturn, 1) := by decide +kernel
theorem d_MO_isMarked_0 : decode b_MO_isMarked 0 = .ok (.aload_n 0, 1) := by decide +kernel
theorem d_MO_isMarked_1 : decode b_MO_isMarked 1 = .ok (.aload_n 0, 1) := by decide +kernel
theorem d_MO_isMarked_2 : decode b_MO_isMarked 2 = .ok (.iload_n 1, 1) := by decide +kernel
theorem d_MO_isMarked_3 : decode b_MO_isMarked 3 = .ok (.invokevirtual 46, 3) := by decide +kernel
theorem d_MO_isMarked_6 : decode b_MO_isMarked 6 = .ok (.ifCond .eq 7, 3) := by decide +kernel
theorem d_MO_isMarked_9 : decode b_MO_isMarked 9 = .ok (.iconst 0, 1) := by decide +kernel
theorem d_MO_isMarked_10 : decode b_MO_isMarked 10 = .ok (.goto 4, 3) := by decide +kernel
theorem d_MO_isMarked_13 : decode b_MO_isMarked 13 = .ok (.iconst 1, 1) := by decide +kernel
theorem d_MO_isMarked_14 : decode b_MO_isMarked 14 = .ok (.putfield 43, 3) := by decide +kernel
theorem d_MO_isMarked_17 : decode b_MO_isMarked 17 = .ok (.aload_n 0, 1) := by decide +kernel
theorem d_MO_isMarked_18 : decode b_MO_isMarked 18 = .ok (.getfield 43, 3) := by decide +kernel
theorem d_MO_isMarked_21 : decode b_MO_isMarked 21 = .ok (.ifCond .ne 16, 3) := by decide +kernel
theorem d_MO_isMarked_24 : decode b_MO_isMarked 24 = .ok (.aload_n 0, 1) := by decide +kernel
theorem d_MO_isMarked_25 : decode b_MO_isMarked 25 = .ok (.getfield 13, 3) := by decide +kernel
theorem d_MO_isMarked_28 : decode b_MO_isMarked 28 = .ok (.iload_n 1, 1) := by decide +kernel
theorem d_MO_isMarked_29 : decode b_MO_isMarked 29 = .ok (.baload, 1) := by decide +kernel
theorem d_MO_isMarked_30 : decode b_MO_isMarked 30 = .ok (.ifCond .eq 7, 3) := by decide +kernel
theorem d_MO_isMarked_33 : decode b_MO_isMarked 33 = .ok (.iconst 1, 1) := by decide +kernel
theorem d_MO_isMarked_34 : decode b_MO_isMarked 34 = .ok (.goto 4, 3) := by decide +kernel
theorem d_MO_isMarked_37 : decode b_MO_isMarked 37 = .ok (.iconst 0, 1) := by decide +kernel
theorem d_MO_isMarked_38 : decode b_MO_isMarked 38 = .ok (.ireturn, 1) := by decide +kernel
theorem d_MO_state_0 : decode b_MO_state 0 = .ok (.aload_n 0, 1) := by decide +kernel
theorem d_MO_state_1 : decode b_MO_state 1 = .ok (.iconst 0, 1) := by decide +kernel
theorem d_MO_state_2 : decode b_MO_state 2 = .ok (.putfield 43, 3) := by decide +kernel
theorem d_MO_state_5 : decode b_MO_state 5 = .ok (.iload_n 1, 1) := by decide +kernel
theorem d_MO_state_6 : decode b_MO_state 6 = .ok (.tableswitch 111 0 8 #[50, 55, 60, 65, 70, 83, 96, 101, 106], 50) := by decide +kernel
theorem d_MO_state_56 : decode b_MO_state 56 = .ok (.aload_n 0, 1) := by decide +kernel
theorem d_MO_state_57 : decode b_MO_state 57 = .ok (.getfield 65, 3) := by decide +kernel
theorem d_MO_state_60 : decode b_MO_state 60 = .ok (.ireturn, 1) := by decide +kernel
theorem d_MO_state_61 : decode b_MO_state 61 = .ok (.aload_n 0, 1) := by decide +kernel
theorem d_MO_state_62 : decode b_MO_state 62 = .ok (.getfield 85, 3) := by decide +kernel
theorem d_MO_state_65 : decode b_MO_state 65 = .ok (.ireturn, 1) := by decide +kernel
theorem d_MO_state_66 : decode b_MO_state 66 = .ok (.aload_n 0, 1) := by decide +kernel
theorem d_MO_state_67 : decode b_MO_state 67 = .ok (.getfield 75, 3) := by decide +kernel
theorem d_MO_state_70 : decode b_MO_state 70 = .ok (.ireturn, 1) := by decide +kernel
theorem d_MO_state_71 : decode b_MO_state 71 = .ok (.aload_n 0, 1) := by decide +kernel
theorem d_MO_state_72 : decode b_MO_state 72 = .ok (.getfield 113, 3) := by decide +kernel
theorem d_MO_state_75 : decode b_MO_state 75 = .ok (.ireturn, 1) := by decide +kernel
theorem d_MO_state_76 : decode b_MO_state 76 = .ok (.aload_n 0, 1) := by decide +kernel
theorem d_MO_state_77 : decode b_MO_state 77 = .ok (.getfield 98, 3) := by decide +kernel
theorem d_MO_state_80 : decode b_MO_state 80 = .ok (.ifCond .eq 7, 3) := by decide +kernel
theorem d_MO_state_83 : decode b_MO_state 83 = .ok (.iconst 1, 1) := by decide +kernel
theorem d_MO_state_84 : decode b_MO_state 84 = .ok (.goto 4, 3) := by decide +kernel
theorem d_MO_state_87 : decode b_MO_state 87 = .ok (.iconst 0, 1) := by decide +kernel
theorem d_MO_state_88 : decode b_MO_state 88 = .ok (.ireturn, 1) := by decide +kernel
theorem d_MO_state_89 : decode b_MO_state 89 = .ok (.aload_n 0, 1) := by decide +kernel
theorem d_MO_state_90 : decode b_MO_state 90 = .ok (.getfield 131, 3) := by decide +kernel
theorem d_MO_state_93 : decode b_MO_state 93 = .ok (.ifCond .eq 7, 3) := by decide +kernel
theorem d_MO_state_96 : decode b_MO_state 96 = .ok (.iconst 1, 1) := by decide +kernel
theorem d_MO_state_97 : decode b_MO_state 97 = .ok (.goto 4, 3) := by decide +kernel
theorem d_MO_state_100 : decode b_MO_state 100 = .ok (.iconst 0, 1) := by decide +kernel
theorem d_MO_state_101 : decode b_MO_state 101 = .ok (.ireturn, 1) := by decide +kernel
theorem d_MO_state_102 : decode b_MO_state 102 = .ok (.aload_n 0, 1) := by decide +kernel
theorem d_MO_state_103 : decode b_MO_state 103 = .ok (.getfield 210, 3) := by decide +kernel
theorem d_MO_state_106 : decode b_MO_state 106 = .ok (.ireturn, 1) := by decide +kernel
theorem d_MO_state_107 : decode b_MO_state 107 = .ok (.aload_n 0, 1) := by decide +kernel
theorem d_MO_state_108 : decode b_MO_state 108 = .ok (.getfield 207, 3) := by decide +kernel
theorem d_MO_state_111 : decode b_MO_state 111 = .ok (.ireturn, 1) := by decide +kernel
theorem d_MO_state_112 : decode b_MO_state 112 = .ok (.aload_n 0, 1) := by decide +kernel
theorem d_MO_state_113 : decode b_MO_state 113 = .ok (.getfield 39, 3) := by decide +kernel
theorem d_MO_state_116 : decode b_MO_state 116 = .ok (.ireturn, 1) := by decide +kernel
theorem d_MO_state_117 : decode b_MO_state 117 = .ok (.iconst (-1), 1) := by decide +kernel
theorem d_MO_state_118 : decode b_MO_state 118 = .ok (.ireturn, 1) := by decide +kernel
theorem d_MO_printed_0 : decode b_MO_printed 0 = .ok (.aload_n 0, 1) := by decide +kernel
theorem d_MO_printed_1 : decode b_MO_printed 1 = .ok (.iload_n 1, 1) := by decide +kernel
theorem d_MO_printed_2 : decode b_MO_printed 2 = .ok (.ifCond .lt 27, 3) := by decide +kernel
theorem d_MO_printed_5 : decode b_MO_printed 5 = .ok (.iload_n 1, 1) := by decide +kernel
theorem d_MO_printed_6 : decode b_MO_printed 6 = .ok (.aload_n 0, 1) := by decide +kernel
theorem d_MO_printed_7 : decode b_MO_printed 7 = .ok (.getfield 134, 3) := by decide +kernel
theorem d_MO_printed_10 : decode b_MO_printed 10 = .ok (.if_icmp .ge 19, 3) := by decide +kernel
theorem d_MO_printed_13 : decode b_MO_printed 13 = .ok (.iload_n 2, 1) := by decide +kernel
theorem d_MO_printed_14 : decode b_MO_printed 14 = .ok (.iconst 1, 1) := by decide +kernel
theorem d_MO_printed_15 : decode b_MO_printed 15 = .ok (.if_icmp .lt 14, 3) := by decide +kernel
theorem d_MO_printed_18 : decode b_MO_printed 18 = .ok (.iload_n 2, 1) := by decide +kernel
theorem d_MO_printed_19 : decode b_MO_printed 19 = .ok (.sipush 132, 3) := by decide +kernel
theorem d_MO_printed_22 : decode b_MO_printed 22 = .ok (.if_icmp .gt 7, 3) := by decide +kernel
theorem d_MO_printed_25 : decode b_MO_printed 25 = .ok (.iconst 0, 1) := by decide +kernel
theorem d_MO_printed_26 : decode b_MO_printed 26 = .ok (.goto 4, 3) := by decide +kernel
theorem d_MO_printed_29 : decode b_MO_printed 29 = .ok (.iconst 1, 1) := by decide +kernel
theorem d_MO_printed_30 : decode b_MO_printed 30 = .ok (.putfield 43, 3) := by decide +kernel
theorem d_MO_printed_33 : decode b_MO_printed 33 = .ok (.aload_n 0, 1) := by decide +kernel
theorem d_MO_printed_34 : decode b_MO_printed 34 = .ok (.getfield 43, 3) := by decide +kernel
theorem d_MO_printed_37 : decode b_MO_printed 37 = .ok (.ifCond .le 7, 3) := by decide +kernel
theorem d_MO_printed_40 : decode b_MO_printed 40 = .ok (.iconst 0, 1) := by decide +kernel
theorem d_MO_printed_41 : decode b_MO_printed 41 = .ok (.goto 17, 3) := by decide +kernel
theorem d_MO_printed_44 : decode b_MO_printed 44 = .ok (.aload_n 0, 1) := by decide +kernel
theorem d_MO_printed_45 : decode b_MO_printed 45 = .ok (.getfield 23, 3) := by decide +kernel
theorem d_MO_printed_48 : decode b_MO_printed 48 = .ok (.sipush 132, 3) := by decide +kernel
theorem d_MO_printed_51 : decode b_MO_printed 51 = .ok (.iload_n 1, 1) := by decide +kernel
theorem d_MO_printed_52 : decode b_MO_printed 52 = .ok (.imul, 1) := by decide +kernel
theorem d_MO_printed_53 : decode b_MO_printed 53 = .ok (.iload_n 2, 1) := by decide +kernel
theorem d_MO_printed_54 : decode b_MO_printed 54 = .ok (.iadd, 1) := by decide +kernel
theorem d_MO_printed_55 : decode b_MO_printed 55 = .ok (.iconst 1, 1) := by decide +kernel
theorem d_MO_printed_56 : decode b_MO_printed 56 = .ok (.isub, 1) := by decide +kernel
theorem d_MO_printed_57 : decode b_MO_printed 57 = .ok (.baload, 1) := by decide +kernel
theorem d_MO_printed_58 : decode b_MO_printed 58 = .ok (.ireturn, 1) := by decide +kernel
theorem d_MO_punched_0 : decode b_MO_punched 0 = .ok (.aload_n 0, 1) := by decide +kernel
theorem d_MO_punched_1 : decode b_MO_punched 1 = .ok (.iload_n 1, 1) := by decide +kernel
theorem d_MO_punched_2 : decode b_MO_punched 2 = .ok (.ifCond .lt 26, 3) := by decide +kernel
theorem d_MO_punched_5 : decode b_MO_punched 5 = .ok (.iload_n 1, 1) := by decide +kernel
theorem d_MO_punched_6 : decode b_MO_punched 6 = .ok (.aload_n 0, 1) := by decide +kernel
theorem d_MO_punched_7 : decode b_MO_punched 7 = .ok (.getfield 137, 3) := by decide +kernel
theorem d_MO_punched_10 : decode b_MO_punched 10 = .ok (.if_icmp .ge 18, 3) := by decide +kernel
theorem d_MO_punched_13 : decode b_MO_punched 13 = .ok (.iload_n 2, 1) := by decide +kernel
theorem d_MO_punched_14 : decode b_MO_punched 14 = .ok (.iconst 1, 1) := by decide +kernel
theorem d_MO_punched_15 : decode b_MO_punched 15 = .ok (.if_icmp .lt 13, 3) := by decide +kernel
theorem d_MO_punched_18 : decode b_MO_punched 18 = .ok (.iload_n 2, 1) := by decide +kernel
theorem d_MO_punched_19 : decode b_MO_punched 19 = .ok (.bipush 80, 2) := by decide +kernel
theorem d_MO_punched_21 : decode b_MO_punched 21 = .ok (.if_icmp .gt 7, 3) := by decide +kernel
theorem d_MO_punched_24 : decode b_MO_punched 24 = .ok (.iconst 0, 1) := by decide +kernel
theorem d_MO_punched_25 : decode b_MO_punched 25 = .ok (.goto 4, 3) := by decide +kernel
theorem d_MO_punched_28 : decode b_MO_punched 28 = .ok (.iconst 1, 1) := by decide +kernel
theorem d_MO_punched_29 : decode b_MO_punched 29 = .ok (.putfield 43, 3) := by decide +kernel
theorem d_MO_punched_32 : decode b_MO_punched 32 = .ok (.aload_n 0, 1) := by decide +kernel
theorem d_MO_punched_33 : decode b_MO_punched 33 = .ok (.getfield 43, 3) := by decide +kernel
theorem d_MO_punched_36 : decode b_MO_punched 36 = .ok (.ifCond .le 7, 3) := by decide +kernel
theorem d_MO_punched_39 : decode b_MO_punched 39 = .ok (.iconst 0, 1) := by decide +kernel
theorem d_MO_punched_40 : decode b_MO_punched 40 = .ok (.goto 16, 3) := by decide +kernel
theorem d_MO_punched_43 : decode b_MO_punched 43 = .ok (.aload_n 0, 1) := by decide +kernel
theorem d_MO_punched_44 : decode b_MO_punched 44 = .ok (.getfield 26, 3) := by decide +kernel
theorem d_MO_punched_47 : decode b_MO_punched 47 = .ok (.bipush 80, 2) := by decide +kernel
theorem d_MO_punched_49 : decode b_MO_punched 49 = .ok (.iload_n 1, 1) := by decide +kernel
theorem d_MO_punched_50 : decode b_MO_punched 50 = .ok (.imul, 1) := by decide +kernel
theorem d_MO_punched_51 : decode b_MO_punched 51 = .ok (.iload_n 2, 1) := by decide +kernel
theorem d_MO_punched_52 : decode b_MO_punched 52 = .ok (.iadd, 1) := by decide +kernel
theorem d_MO_punched_53 : decode b_MO_punched 53 = .ok (.iconst 1, 1) := by decide +kernel
theorem d_MO_punched_54 : decode b_MO_punched 54 = .ok (.isub, 1) := by decide +kernel
theorem d_MO_punched_55 : decode b_MO_punched 55 = .ok (.baload, 1) := by decide +kernel
theorem d_MO_punched_56 : decode b_MO_punched 56 = .ok (.ireturn, 1) := by decide +kernel
theorem d_MO_number_0 : decode b_MO_number 0 = .ok (.aload_n 0, 1) := by decide +kernel
theorem d_MO_number_1 : decode b_MO_number 1 = .ok (.iload_n 1, 1) := by decide +kernel
theorem d_MO_number_2 : decode b_MO_number 2 = .ok (.sipush 3000, 3) := by decide +kernel
theorem d_MO_number_5 : decode b_MO_number 5 = .ok (.invokevirtual 81, 3) := by decide +kernel
theorem d_MO_number_8 : decode b_MO_number 8 = .ok (.istore_n 2, 1) := by decide +kernel
theorem d_MO_number_9 : decode b_MO_number 9 = .ok (.aload_n 0, 1) := by decide +kernel
theorem d_MO_number_10 : decode b_MO_number 10 = .ok (.iload_n 2, 1) := by decide +kernel
theorem d_MO_number_11 : decode b_MO_number 11 = .ok (.ifCond .ne 7, 3) := by decide +kernel
theorem d_MO_number_14 : decode b_MO_number 14 = .ok (.iconst 1, 1) := by decide +kernel
theorem d_MO_number_15 : decode b_MO_number 15 = .ok (.goto 14, 3) := by decide +kernel
theorem d_MO_number_18 : decode b_MO_number 18 = .ok (.iload_n 2, 1) := by decide +kernel
theorem d_MO_number_19 : decode b_MO_number 19 = .ok (.bipush 18, 2) := by decide +kernel
theorem d_MO_number_21 : decode b_MO_number 21 = .ok (.if_icmp .le 7, 3) := by decide +kernel
theorem d_MO_number_24 : decode b_MO_number 24 = .ok (.iconst 2, 1) := by decide +kernel
theorem d_MO_number_25 : decode b_MO_number 25 = .ok (.goto 4, 3) := by decide +kernel
theorem d_MO_number_28 : decode b_MO_number 28 = .ok (.iconst 0, 1) := by decide +kernel
theorem d_MO_number_29 : decode b_MO_number 29 = .ok (.putfield 43, 3) := by decide +kernel
theorem d_MO_number_32 : decode b_MO_number 32 = .ok (.lconst 0, 1) := by decide +kernel
theorem d_MO_number_33 : decode b_MO_number 33 = .ok (.lstore_n 3, 1) := by decide +kernel
theorem d_MO_number_34 : decode b_MO_number 34 = .ok (.iload_n 2, 1) := by decide +kernel
theorem d_MO_number_35 : decode b_MO_number 35 = .ok (.iconst 1, 1) := by decide +kernel
theorem d_MO_number_36 : decode b_MO_number 36 = .ok (.isub, 1) := by decide +kernel
theorem d_MO_number_37 : decode b_MO_number 37 = .ok (.istore 5, 2) := by decide +kernel
theorem d_MO_number_39 : decode b_MO_number 39 = .ok (.iload 5, 2) := by decide +kernel
theorem d_MO_number_41 : decode b_MO_number 41 = .ok (.ifCond .lt 36, 3) := by decide +kernel
theorem d_MO_number_44 : decode b_MO_number 44 = .ok (.aload_n 0, 1) := by decide +kernel
theorem d_MO_number_45 : decode b_MO_number 45 = .ok (.getfield 43, 3) := by decide +kernel
theorem d_MO_number_48 : decode b_MO_number 48 = .ok (.ifCond .ne 29, 3) := by decide +kernel
theorem d_MO_number_51 : decode b_MO_number 51 = .ok (.ldc2_w 219, 3) := by decide +kernel
theorem d_MO_number_54 : decode b_MO_number 54 = .ok (.lload_n 3, 1) := by decide +kernel
theorem d_MO_number_55 : decode b_MO_number 55 = .ok (.lmul, 1) := by decide +kernel
theorem d_MO_number_56 : decode b_MO_number 56 = .ok (.aload_n 0, 1) := by decide +kernel
theorem d_MO_number_57 : decode b_MO_number 57 = .ok (.getfield 7, 3) := by decide +kernel
theorem d_MO_number_60 : decode b_MO_number 60 = .ok (.iload_n 1, 1) := by decide +kernel
theorem d_MO_number_61 : decode b_MO_number 61 = .ok (.iload 5, 2) := by decide +kernel
theorem d_MO_number_63 : decode b_MO_number 63 = .ok (.isub, 1) := by decide +kernel
theorem d_MO_number_64 : decode b_MO_number 64 = .ok (.baload, 1) := by decide +kernel
theorem d_MO_number_65 : decode b_MO_number 65 = .ok (.invokestatic 72, 3) := by decide +kernel
theorem d_MO_number_68 : decode b_MO_number 68 = .ok (.i2l, 1) := by decide +kernel
theorem d_MO_number_69 : decode b_MO_number 69 = .ok (.ladd, 1) := by decide +kernel
theorem d_MO_number_70 : decode b_MO_number 70 = .ok (.lstore_n 3, 1) := by decide +kernel
theorem d_MO_number_71 : decode b_MO_number 71 = .ok (.iinc 5 (-1), 3) := by decide +kernel
theorem d_MO_number_74 : decode b_MO_number 74 = .ok (.goto (-35), 3) := by decide +kernel
theorem d_MO_number_77 : decode b_MO_number 77 = .ok (.aload_n 0, 1) := by decide +kernel
theorem d_MO_number_78 : decode b_MO_number 78 = .ok (.getfield 43, 3) := by decide +kernel
theorem d_MO_number_81 : decode b_MO_number 81 = .ok (.ifCond .le 7, 3) := by decide +kernel
theorem d_MO_number_84 : decode b_MO_number 84 = .ok (.lconst 0, 1) := by decide +kernel
theorem d_MO_number_85 : decode b_MO_number 85 = .ok (.goto 21, 3) := by decide +kernel
theorem d_MO_number_88 : decode b_MO_number 88 = .ok (.aload_n 0, 1) := by decide +kernel
theorem d_MO_number_89 : decode b_MO_number 89 = .ok (.getfield 7, 3) := by decide +kernel
theorem d_MO_number_92 : decode b_MO_number 92 = .ok (.iload_n 1, 1) := by decide +kernel
theorem d_MO_number_93 : decode b_MO_number 93 = .ok (.baload, 1) := by decide +kernel
theorem d_MO_number_94 : decode b_MO_number 94 = .ok (.invokestatic 88, 3) := by decide +kernel
theorem d_MO_number_97 : decode b_MO_number 97 = .ok (.ifCond .eq 8, 3) := by decide +kernel
theorem d_MO_number_100 : decode b_MO_number 100 = .ok (.lload_n 3, 1) := by decide +kernel
theorem d_MO_number_101 : decode b_MO_number 101 = .ok (.lneg, 1) := by decide +kernel
theorem d_MO_number_102 : decode b_MO_number 102 = .ok (.goto 4, 3) := by decide +kernel
theorem d_MO_number_105 : decode b_MO_number 105 = .ok (.lload_n 3, 1) := by decide +kernel
theorem d_MO_number_106 : decode b_MO_number 106 = .ok (.lreturn, 1) := by decide +kernel
theorem d_MO_count_0 : decode b_MO_count 0 = .ok (.aload_n 0, 1) := by decide +kernel
theorem d_MO_count_1 : decode b_MO_count 1 = .ok (.iconst 0, 1) := by decide +kernel
theorem d_MO_count_2 : decode b_MO_count 2 = .ok (.putfield 43, 3) := by decide +kernel
theorem d_MO_count_5 : decode b_MO_count 5 = .ok (.iconst 0, 1) := by decide +kernel
theorem d_MO_count_6 : decode b_MO_count 6 = .ok (.istore_n 2, 1) := by decide +kernel
theorem d_MO_count_7 : decode b_MO_count 7 = .ok (.iconst 0, 1) := by decide +kernel
theorem d_MO_count_8 : decode b_MO_count 8 = .ok (.istore_n 3, 1) := by decide +kernel
theorem d_MO_count_9 : decode b_MO_count 9 = .ok (.iload_n 3, 1) := by decide +kernel
theorem d_MO_count_10 : decode b_MO_count 10 = .ok (.aload_n 0, 1) := by decide +kernel
theorem d_MO_count_11 : decode b_MO_count 11 = .ok (.getfield 39, 3) := by decide +kernel
theorem d_MO_count_14 : decode b_MO_count 14 = .ok (.if_icmp .ge 26, 3) := by decide +kernel
theorem d_MO_count_17 : decode b_MO_count 17 = .ok (.iload_n 2, 1) := by decide +kernel
theorem d_MO_count_18 : decode b_MO_count 18 = .ok (.aload_n 0, 1) := by decide +kernel
theorem d_MO_count_19 : decode b_MO_count 19 = .ok (.getfield 13, 3) := by decide +kernel
theorem d_MO_count_22 : decode b_MO_count 22 = .ok (.iload_n 3, 1) := by decide +kernel
theorem d_MO_count_23 : decode b_MO_count 23 = .ok (.baload, 1) := by decide +kernel
theorem d_MO_count_24 : decode b_MO_count 24 = .ok (.ifCond .eq 7, 3) := by decide +kernel
theorem d_MO_count_27 : decode b_MO_count 27 = .ok (.iconst 1, 1) := by decide +kernel
theorem d_MO_count_28 : decode b_MO_count 28 = .ok (.goto 4, 3) := by decide +kernel
theorem d_MO_count_31 : decode b_MO_count 31 = .ok (.iconst 0, 1) := by decide +kernel
theorem d_MO_count_32 : decode b_MO_count 32 = .ok (.iadd, 1) := by decide +kernel
theorem d_MO_count_33 : decode b_MO_count 33 = .ok (.istore_n 2, 1) := by decide +kernel
theorem d_MO_count_34 : decode b_MO_count 34 = .ok (.iinc 3 1, 3) := by decide +kernel
theorem d_MO_count_37 : decode b_MO_count 37 = .ok (.goto (-28), 3) := by decide +kernel
theorem d_MO_count_40 : decode b_MO_count 40 = .ok (.iload_n 1, 1) := by decide +kernel
theorem d_MO_count_41 : decode b_MO_count 41 = .ok (.ifCond .ne 15, 3) := by decide +kernel
theorem d_MO_count_44 : decode b_MO_count 44 = .ok (.aload_n 0, 1) := by decide +kernel
theorem d_MO_count_45 : decode b_MO_count 45 = .ok (.getfield 59, 3) := by decide +kernel
theorem d_MO_count_48 : decode b_MO_count 48 = .ok (.aload_n 0, 1) := by decide +kernel
theorem d_MO_count_49 : decode b_MO_count 49 = .ok (.getfield 62, 3) := by decide +kernel
theorem d_MO_count_52 : decode b_MO_count 52 = .ok (.isub, 1) := by decide +kernel
theorem d_MO_count_53 : decode b_MO_count 53 = .ok (.goto 37, 3) := by decide +kernel
theorem d_MO_count_56 : decode b_MO_count 56 = .ok (.iload_n 1, 1) := by decide +kernel
theorem d_MO_count_57 : decode b_MO_count 57 = .ok (.iconst 1, 1) := by decide +kernel
theorem d_MO_count_58 : decode b_MO_count 58 = .ok (.if_icmp .ne 10, 3) := by decide +kernel
theorem d_MO_count_61 : decode b_MO_count 61 = .ok (.aload_n 0, 1) := by decide +kernel
theorem d_MO_count_62 : decode b_MO_count 62 = .ok (.getfield 134, 3) := by decide +kernel
theorem d_MO_count_65 : decode b_MO_count 65 = .ok (.goto 25, 3) := by decide +kernel
theorem d_MO_count_68 : decode b_MO_count 68 = .ok (.iload_n 1, 1) := by decide +kernel
theorem d_MO_count_69 : decode b_MO_count 69 = .ok (.iconst 2, 1) := by decide +kernel
theorem d_MO_count_70 : decode b_MO_count 70 = .ok (.if_icmp .ne 10, 3) := by decide +kernel
theorem d_MO_count_73 : decode b_MO_count 73 = .ok (.aload_n 0, 1) := by decide +kernel
theorem d_MO_count_74 : decode b_MO_count 74 = .ok (.getfield 137, 3) := by decide +kernel
theorem d_MO_count_77 : decode b_MO_count 77 = .ok (.goto 13, 3) := by decide +kernel
theorem d_MO_count_80 : decode b_MO_count 80 = .ok (.iload_n 1, 1) := by decide +kernel
theorem d_MO_count_81 : decode b_MO_count 81 = .ok (.iconst 3, 1) := by decide +kernel
theorem d_MO_count_82 : decode b_MO_count 82 = .ok (.if_icmp .ne 7, 3) := by decide +kernel
theorem d_MO_count_85 : decode b_MO_count 85 = .ok (.iload_n 2, 1) := by decide +kernel
theorem d_MO_count_86 : decode b_MO_count 86 = .ok (.goto 4, 3) := by decide +kernel
theorem d_MO_count_89 : decode b_MO_count 89 = .ok (.iconst (-1), 1) := by decide +kernel
theorem d_MO_count_90 : decode b_MO_count 90 = .ok (.ireturn, 1) := by decide +kernel
