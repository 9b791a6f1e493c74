theorem d_ST_init_0 : decode b_ST_init 0 = .ok (.aload_n 0, 1) := by decide +kernel
theorem d_ST_init_1 : decode b_ST_init 1 = .ok (.invokespecial 3, 3) := by decide +kernel
theorem d_ST_init_4 : decode b_ST_init 4 = .ok (.aload_n 0, 1) := by decide +kernel
theorem d_ST_init_5 : decode b_ST_init 5 = .ok (.iload_n 1, 1) := by decide +kernel
theorem d_ST_init_6 : decode b_ST_init 6 = .ok (.newarray .int, 2) := by decide +kernel
theorem d_ST_init_8 : decode b_ST_init 8 = .ok (.putfield 9, 3) := by decide +kernel
theorem d_ST_init_11 : decode b_ST_init 11 = .ok (.return_, 1) := by decide +kernel
theorem d_ST_size_0 : decode b_ST_size 0 = .ok (.aload_n 0, 1) := by decide +kernel
theorem d_ST_size_1 : decode b_ST_size 1 = .ok (.getfield 9, 3) := by decide +kernel
theorem d_ST_size_4 : decode b_ST_size 4 = .ok (.arraylength, 1) := by decide +kernel
theorem d_ST_size_5 : decode b_ST_size 5 = .ok (.ireturn, 1) := by decide +kernel
theorem d_ST_has_0 : decode b_ST_has 0 = .ok (.iload_n 1, 1) := by decide +kernel
theorem d_ST_has_1 : decode b_ST_has 1 = .ok (.ifCond .lt 16, 3) := by decide +kernel
theorem d_ST_has_4 : decode b_ST_has 4 = .ok (.iload_n 1, 1) := by decide +kernel
theorem d_ST_has_5 : decode b_ST_has 5 = .ok (.aload_n 0, 1) := by decide +kernel
theorem d_ST_has_6 : decode b_ST_has 6 = .ok (.getfield 9, 3) := by decide +kernel
theorem d_ST_has_9 : decode b_ST_has 9 = .ok (.arraylength, 1) := by decide +kernel
theorem d_ST_has_10 : decode b_ST_has 10 = .ok (.if_icmp .ge 7, 3) := by decide +kernel
theorem d_ST_has_13 : decode b_ST_has 13 = .ok (.iconst 1, 1) := by decide +kernel
theorem d_ST_has_14 : decode b_ST_has 14 = .ok (.goto 4, 3) := by decide +kernel
theorem d_ST_has_17 : decode b_ST_has 17 = .ok (.iconst 0, 1) := by decide +kernel
theorem d_ST_has_18 : decode b_ST_has 18 = .ok (.ireturn, 1) := by decide +kernel
theorem d_ST_hasSpan_0 : decode b_ST_hasSpan 0 = .ok (.aload_n 0, 1) := by decide +kernel
theorem d_ST_hasSpan_1 : decode b_ST_hasSpan 1 = .ok (.iload_n 1, 1) := by decide +kernel
theorem d_ST_hasSpan_2 : decode b_ST_hasSpan 2 = .ok (.invokevirtual 15, 3) := by decide +kernel
theorem d_ST_hasSpan_5 : decode b_ST_hasSpan 5 = .ok (.ifCond .eq 14, 3) := by decide +kernel
theorem d_ST_hasSpan_8 : decode b_ST_hasSpan 8 = .ok (.iload_n 1, 1) := by decide +kernel
theorem d_ST_hasSpan_9 : decode b_ST_hasSpan 9 = .ok (.iload_n 2, 1) := by decide +kernel
theorem d_ST_hasSpan_10 : decode b_ST_hasSpan 10 = .ok (.iconst 1, 1) := by decide +kernel
theorem d_ST_hasSpan_11 : decode b_ST_hasSpan 11 = .ok (.isub, 1) := by decide +kernel
theorem d_ST_hasSpan_12 : decode b_ST_hasSpan 12 = .ok (.if_icmp .lt 7, 3) := by decide +kernel
theorem d_ST_hasSpan_15 : decode b_ST_hasSpan 15 = .ok (.iconst 1, 1) := by decide +kernel
theorem d_ST_hasSpan_16 : decode b_ST_hasSpan 16 = .ok (.goto 4, 3) := by decide +kernel
theorem d_ST_hasSpan_19 : decode b_ST_hasSpan 19 = .ok (.iconst 0, 1) := by decide +kernel
theorem d_ST_hasSpan_20 : decode b_ST_hasSpan 20 = .ok (.ireturn, 1) := by decide +kernel
theorem d_ST_character_0 : decode b_ST_character 0 = .ok (.aload_n 0, 1) := by decide +kernel
theorem d_ST_character_1 : decode b_ST_character 1 = .ok (.getfield 9, 3) := by decide +kernel
theorem d_ST_character_4 : decode b_ST_character 4 = .ok (.iload_n 1, 1) := by decide +kernel
theorem d_ST_character_5 : decode b_ST_character 5 = .ok (.iaload, 1) := by decide +kernel
theorem d_ST_character_6 : decode b_ST_character 6 = .ok (.bipush 63, 2) := by decide +kernel
theorem d_ST_character_8 : decode b_ST_character 8 = .ok (.iand, 1) := by decide +kernel
theorem d_ST_character_9 : decode b_ST_character 9 = .ok (.ireturn, 1) := by decide +kernel
theorem d_ST_hasMark_0 : decode b_ST_hasMark 0 = .ok (.aload_n 0, 1) := by decide +kernel
theorem d_ST_hasMark_1 : decode b_ST_hasMark 1 = .ok (.getfield 9, 3) := by decide +kernel
theorem d_ST_hasMark_4 : decode b_ST_hasMark 4 = .ok (.iload_n 1, 1) := by decide +kernel
theorem d_ST_hasMark_5 : decode b_ST_hasMark 5 = .ok (.iaload, 1) := by decide +kernel
theorem d_ST_hasMark_6 : decode b_ST_hasMark 6 = .ok (.bipush 64, 2) := by decide +kernel
theorem d_ST_hasMark_8 : decode b_ST_hasMark 8 = .ok (.iand, 1) := by decide +kernel
theorem d_ST_hasMark_9 : decode b_ST_hasMark 9 = .ok (.ifCond .eq 7, 3) := by decide +kernel
theorem d_ST_hasMark_12 : decode b_ST_hasMark 12 = .ok (.iconst 1, 1) := by decide +kernel
theorem d_ST_hasMark_13 : decode b_ST_hasMark 13 = .ok (.goto 4, 3) := by decide +kernel
theorem d_ST_hasMark_16 : decode b_ST_hasMark 16 = .ok (.iconst 0, 1) := by decide +kernel
theorem d_ST_hasMark_17 : decode b_ST_hasMark 17 = .ok (.ireturn, 1) := by decide +kernel
theorem d_ST_zone_0 : decode b_ST_zone 0 = .ok (.aload_n 0, 1) := by decide +kernel
theorem d_ST_zone_1 : decode b_ST_zone 1 = .ok (.getfield 9, 3) := by decide +kernel
theorem d_ST_zone_4 : decode b_ST_zone 4 = .ok (.iload_n 1, 1) := by decide +kernel
theorem d_ST_zone_5 : decode b_ST_zone 5 = .ok (.iaload, 1) := by decide +kernel
theorem d_ST_zone_6 : decode b_ST_zone 6 = .ok (.bipush 48, 2) := by decide +kernel
theorem d_ST_zone_8 : decode b_ST_zone 8 = .ok (.iand, 1) := by decide +kernel
theorem d_ST_zone_9 : decode b_ST_zone 9 = .ok (.ireturn, 1) := by decide +kernel
theorem d_ST_digit_0 : decode b_ST_digit 0 = .ok (.aload_n 0, 1) := by decide +kernel
theorem d_ST_digit_1 : decode b_ST_digit 1 = .ok (.getfield 9, 3) := by decide +kernel
theorem d_ST_digit_4 : decode b_ST_digit 4 = .ok (.iload_n 1, 1) := by decide +kernel
theorem d_ST_digit_5 : decode b_ST_digit 5 = .ok (.iaload, 1) := by decide +kernel
theorem d_ST_digit_6 : decode b_ST_digit 6 = .ok (.bipush 15, 2) := by decide +kernel
theorem d_ST_digit_8 : decode b_ST_digit 8 = .ok (.iand, 1) := by decide +kernel
theorem d_ST_digit_9 : decode b_ST_digit 9 = .ok (.bipush 10, 2) := by decide +kernel
theorem d_ST_digit_11 : decode b_ST_digit 11 = .ok (.irem, 1) := by decide +kernel
theorem d_ST_digit_12 : decode b_ST_digit 12 = .ok (.ireturn, 1) := by decide +kernel
theorem d_ST_isMinus_0 : decode b_ST_isMinus 0 = .ok (.aload_n 0, 1) := by decide +kernel
theorem d_ST_isMinus_1 : decode b_ST_isMinus 1 = .ok (.iload_n 1, 1) := by decide +kernel
theorem d_ST_isMinus_2 : decode b_ST_isMinus 2 = .ok (.invokevirtual 19, 3) := by decide +kernel
theorem d_ST_isMinus_5 : decode b_ST_isMinus 5 = .ok (.bipush 32, 2) := by decide +kernel
theorem d_ST_isMinus_7 : decode b_ST_isMinus 7 = .ok (.if_icmp .ne 7, 3) := by decide +kernel
theorem d_ST_isMinus_10 : decode b_ST_isMinus 10 = .ok (.iconst 1, 1) := by decide +kernel
theorem d_ST_isMinus_11 : decode b_ST_isMinus 11 = .ok (.goto 4, 3) := by decide +kernel
theorem d_ST_isMinus_14 : decode b_ST_isMinus 14 = .ok (.iconst 0, 1) := by decide +kernel
theorem d_ST_isMinus_15 : decode b_ST_isMinus 15 = .ok (.ireturn, 1) := by decide +kernel
theorem d_ST_place_0 : decode b_ST_place 0 = .ok (.aload_n 0, 1) := by decide +kernel
theorem d_ST_place_1 : decode b_ST_place 1 = .ok (.getfield 9, 3) := by decide +kernel
theorem d_ST_place_4 : decode b_ST_place 4 = .ok (.iload_n 1, 1) := by decide +kernel
theorem d_ST_place_5 : decode b_ST_place 5 = .ok (.iload_n 3, 1) := by decide +kernel
theorem d_ST_place_6 : decode b_ST_place 6 = .ok (.ifCond .eq 10, 3) := by decide +kernel
theorem d_ST_place_9 : decode b_ST_place 9 = .ok (.iload_n 2, 1) := by decide +kernel
theorem d_ST_place_10 : decode b_ST_place 10 = .ok (.bipush 64, 2) := by decide +kernel
theorem d_ST_place_12 : decode b_ST_place 12 = .ok (.ior, 1) := by decide +kernel
theorem d_ST_place_13 : decode b_ST_place 13 = .ok (.goto 4, 3) := by decide +kernel
theorem d_ST_place_16 : decode b_ST_place 16 = .ok (.iload_n 2, 1) := by decide +kernel
theorem d_ST_place_17 : decode b_ST_place 17 = .ok (.iastore, 1) := by decide +kernel
theorem d_ST_place_18 : decode b_ST_place 18 = .ok (.return_, 1) := by decide +kernel
theorem d_ST_write_0 : decode b_ST_write 0 = .ok (.aload_n 0, 1) := by decide +kernel
theorem d_ST_write_1 : decode b_ST_write 1 = .ok (.getfield 9, 3) := by decide +kernel
theorem d_ST_write_4 : decode b_ST_write 4 = .ok (.iload_n 1, 1) := by decide +kernel
theorem d_ST_write_5 : decode b_ST_write 5 = .ok (.aload_n 0, 1) := by decide +kernel
theorem d_ST_write_6 : decode b_ST_write 6 = .ok (.getfield 9, 3) := by decide +kernel
theorem d_ST_write_9 : decode b_ST_write 9 = .ok (.iload_n 1, 1) := by decide +kernel
theorem d_ST_write_10 : decode b_ST_write 10 = .ok (.iaload, 1) := by decide +kernel
theorem d_ST_write_11 : decode b_ST_write 11 = .ok (.bipush 64, 2) := by decide +kernel
theorem d_ST_write_13 : decode b_ST_write 13 = .ok (.iand, 1) := by decide +kernel
theorem d_ST_write_14 : decode b_ST_write 14 = .ok (.iload_n 2, 1) := by decide +kernel
theorem d_ST_write_15 : decode b_ST_write 15 = .ok (.ior, 1) := by decide +kernel
theorem d_ST_write_16 : decode b_ST_write 16 = .ok (.iastore, 1) := by decide +kernel
theorem d_ST_write_17 : decode b_ST_write 17 = .ok (.return_, 1) := by decide +kernel
theorem d_ST_writeZone_0 : decode b_ST_writeZone 0 = .ok (.aload_n 0, 1) := by decide +kernel
theorem d_ST_writeZone_1 : decode b_ST_writeZone 1 = .ok (.iload_n 1, 1) := by decide +kernel
theorem d_ST_writeZone_2 : decode b_ST_writeZone 2 = .ok (.aload_n 0, 1) := by decide +kernel
theorem d_ST_writeZone_3 : decode b_ST_writeZone 3 = .ok (.iload_n 1, 1) := by decide +kernel
theorem d_ST_writeZone_4 : decode b_ST_writeZone 4 = .ok (.invokevirtual 23, 3) := by decide +kernel
theorem d_ST_writeZone_7 : decode b_ST_writeZone 7 = .ok (.bipush 15, 2) := by decide +kernel
theorem d_ST_writeZone_9 : decode b_ST_writeZone 9 = .ok (.iand, 1) := by decide +kernel
theorem d_ST_writeZone_10 : decode b_ST_writeZone 10 = .ok (.iload_n 2, 1) := by decide +kernel
theorem d_ST_writeZone_11 : decode b_ST_writeZone 11 = .ok (.ior, 1) := by decide +kernel
theorem d_ST_writeZone_12 : decode b_ST_writeZone 12 = .ok (.invokevirtual 26, 3) := by decide +kernel
theorem d_ST_writeZone_15 : decode b_ST_writeZone 15 = .ok (.return_, 1) := by decide +kernel
theorem d_ST_mark_0 : decode b_ST_mark 0 = .ok (.aload_n 0, 1) := by decide +kernel
theorem d_ST_mark_1 : decode b_ST_mark 1 = .ok (.iload_n 1, 1) := by decide +kernel
theorem d_ST_mark_2 : decode b_ST_mark 2 = .ok (.aload_n 0, 1) := by decide +kernel
theorem d_ST_mark_3 : decode b_ST_mark 3 = .ok (.iload_n 1, 1) := by decide +kernel
theorem d_ST_mark_4 : decode b_ST_mark 4 = .ok (.invokevirtual 23, 3) := by decide +kernel
theorem d_ST_mark_7 : decode b_ST_mark 7 = .ok (.iload_n 2, 1) := by decide +kernel
theorem d_ST_mark_8 : decode b_ST_mark 8 = .ok (.invokevirtual 30, 3) := by decide +kernel
theorem d_ST_mark_11 : decode b_ST_mark 11 = .ok (.return_, 1) := by decide +kernel
theorem d_ST_copySpan_0 : decode b_ST_copySpan 0 = .ok (.aload_n 0, 1) := by decide +kernel
theorem d_ST_copySpan_1 : decode b_ST_copySpan 1 = .ok (.getfield 9, 3) := by decide +kernel
theorem d_ST_copySpan_4 : decode b_ST_copySpan 4 = .ok (.iload_n 1, 1) := by decide +kernel
theorem d_ST_copySpan_5 : decode b_ST_copySpan 5 = .ok (.iload_n 3, 1) := by decide +kernel
theorem d_ST_copySpan_6 : decode b_ST_copySpan 6 = .ok (.isub, 1) := by decide +kernel
theorem d_ST_copySpan_7 : decode b_ST_copySpan 7 = .ok (.iconst 1, 1) := by decide +kernel
theorem d_ST_copySpan_8 : decode b_ST_copySpan 8 = .ok (.iadd, 1) := by decide +kernel
theorem d_ST_copySpan_9 : decode b_ST_copySpan 9 = .ok (.aload_n 0, 1) := by decide +kernel
theorem d_ST_copySpan_10 : decode b_ST_copySpan 10 = .ok (.getfield 9, 3) := by decide +kernel
theorem d_ST_copySpan_13 : decode b_ST_copySpan 13 = .ok (.iload_n 2, 1) := by decide +kernel
theorem d_ST_copySpan_14 : decode b_ST_copySpan 14 = .ok (.iload_n 3, 1) := by decide +kernel
theorem d_ST_copySpan_15 : decode b_ST_copySpan 15 = .ok (.isub, 1) := by decide +kernel
theorem d_ST_copySpan_16 : decode b_ST_copySpan 16 = .ok (.iconst 1, 1) := by decide +kernel
theorem d_ST_copySpan_17 : decode b_ST_copySpan 17 = .ok (.iadd, 1) := by decide +kernel
theorem d_ST_copySpan_18 : decode b_ST_copySpan 18 = .ok (.iload_n 3, 1) := by decide +kernel
theorem d_ST_copySpan_19 : decode b_ST_copySpan 19 = .ok (.invokestatic 34, 3) := by decide +kernel
theorem d_ST_copySpan_22 : decode b_ST_copySpan 22 = .ok (.return_, 1) := by decide +kernel
theorem d_ST_fieldLength1_0 : decode b_ST_fieldLength1 0 = .ok (.aload_n 0, 1) := by decide +kernel
theorem d_ST_fieldLength1_1 : decode b_ST_fieldLength1 1 = .ok (.iload_n 1, 1) := by decide +kernel
theorem d_ST_fieldLength1_2 : decode b_ST_fieldLength1 2 = .ok (.aload_n 0, 1) := by decide +kernel
theorem d_ST_fieldLength1_3 : decode b_ST_fieldLength1 3 = .ok (.getfield 9, 3) := by decide +kernel
theorem d_ST_fieldLength1_6 : decode b_ST_fieldLength1 6 = .ok (.arraylength, 1) := by decide +kernel
theorem d_ST_fieldLength1_7 : decode b_ST_fieldLength1 7 = .ok (.iconst 1, 1) := by decide +kernel
theorem d_ST_fieldLength1_8 : decode b_ST_fieldLength1 8 = .ok (.iadd, 1) := by decide +kernel
theorem d_ST_fieldLength1_9 : decode b_ST_fieldLength1 9 = .ok (.invokevirtual 40, 3) := by decide +kernel
theorem d_ST_fieldLength1_12 : decode b_ST_fieldLength1 12 = .ok (.ireturn, 1) := by decide +kernel
theorem d_ST_fieldLength2_0 : decode b_ST_fieldLength2 0 = .ok (.aload_n 0, 1) := by decide +kernel
theorem d_ST_fieldLength2_1 : decode b_ST_fieldLength2 1 = .ok (.iload_n 1, 1) := by decide +kernel
theorem d_ST_fieldLength2_2 : decode b_ST_fieldLength2 2 = .ok (.invokevirtual 15, 3) := by decide +kernel
theorem d_ST_fieldLength2_5 : decode b_ST_fieldLength2 5 = .ok (.ifCond .ne 5, 3) := by decide +kernel
theorem d_ST_fieldLength2_8 : decode b_ST_fieldLength2 8 = .ok (.iconst (-1), 1) := by decide +kernel
theorem d_ST_fieldLength2_9 : decode b_ST_fieldLength2 9 = .ok (.ireturn, 1) := by decide +kernel
theorem d_ST_fieldLength2_10 : decode b_ST_fieldLength2 10 = .ok (.iconst 1, 1) := by decide +kernel
theorem d_ST_fieldLength2_11 : decode b_ST_fieldLength2 11 = .ok (.istore_n 3, 1) := by decide +kernel
theorem d_ST_fieldLength2_12 : decode b_ST_fieldLength2 12 = .ok (.iload_n 3, 1) := by decide +kernel
theorem d_ST_fieldLength2_13 : decode b_ST_fieldLength2 13 = .ok (.iload_n 1, 1) := by decide +kernel
theorem d_ST_fieldLength2_14 : decode b_ST_fieldLength2 14 = .ok (.iconst 1, 1) := by decide +kernel
theorem d_ST_fieldLength2_15 : decode b_ST_fieldLength2 15 = .ok (.iadd, 1) := by decide +kernel
theorem d_ST_fieldLength2_16 : decode b_ST_fieldLength2 16 = .ok (.if_icmp .gt 28, 3) := by decide +kernel
theorem d_ST_fieldLength2_19 : decode b_ST_fieldLength2 19 = .ok (.iload_n 3, 1) := by decide +kernel
theorem d_ST_fieldLength2_20 : decode b_ST_fieldLength2 20 = .ok (.iload_n 2, 1) := by decide +kernel
theorem d_ST_fieldLength2_21 : decode b_ST_fieldLength2 21 = .ok (.if_icmp .eq 15, 3) := by decide +kernel
theorem d_ST_fieldLength2_24 : decode b_ST_fieldLength2 24 = .ok (.aload_n 0, 1) := by decide +kernel
theorem d_ST_fieldLength2_25 : decode b_ST_fieldLength2 25 = .ok (.iload_n 1, 1) := by decide +kernel
theorem d_ST_fieldLength2_26 : decode b_ST_fieldLength2 26 = .ok (.iload_n 3, 1) := by decide +kernel
theorem d_ST_fieldLength2_27 : decode b_ST_fieldLength2 27 = .ok (.isub, 1) := by decide +kernel
theorem d_ST_fieldLength2_28 : decode b_ST_fieldLength2 28 = .ok (.iconst 1, 1) := by decide +kernel
theorem d_ST_fieldLength2_29 : decode b_ST_fieldLength2 29 = .ok (.iadd, 1) := by decide +kernel
theorem d_ST_fieldLength2_30 : decode b_ST_fieldLength2 30 = .ok (.invokevirtual 44, 3) := by decide +kernel
theorem d_ST_fieldLength2_33 : decode b_ST_fieldLength2 33 = .ok (.ifCond .eq 5, 3) := by decide +kernel
theorem d_ST_fieldLength2_36 : decode b_ST_fieldLength2 36 = .ok (.iload_n 3, 1) := by decide +kernel
theorem d_ST_fieldLength2_37 : decode b_ST_fieldLength2 37 = .ok (.ireturn, 1) := by decide +kernel
theorem d_ST_fieldLength2_38 : decode b_ST_fieldLength2 38 = .ok (.iinc 3 1, 3) := by decide +kernel
theorem d_ST_fieldLength2_41 : decode b_ST_fieldLength2 41 = .ok (.goto (-29), 3) := by decide +kernel
theorem d_ST_fieldLength2_44 : decode b_ST_fieldLength2 44 = .ok (.iconst (-1), 1) := by decide +kernel
theorem d_ST_fieldLength2_45 : decode b_ST_fieldLength2 45 = .ok (.ireturn, 1) := by decide +kernel
theorem d_ST_commonLength_0 : decode b_ST_commonLength 0 = .ok (.aload_n 0, 1) := by decide +kernel
theorem d_ST_commonLength_1 : decode b_ST_commonLength 1 = .ok (.iload_n 1, 1) := by decide +kernel
theorem d_ST_commonLength_2 : decode b_ST_commonLength 2 = .ok (.invokevirtual 15, 3) := by decide +kernel
theorem d_ST_commonLength_5 : decode b_ST_commonLength 5 = .ok (.ifCond .eq 11, 3) := by decide +kernel
theorem d_ST_commonLength_8 : decode b_ST_commonLength 8 = .ok (.aload_n 0, 1) := by decide +kernel
theorem d_ST_commonLength_9 : decode b_ST_commonLength 9 = .ok (.iload_n 2, 1) := by decide +kernel
theorem d_ST_commonLength_10 : decode b_ST_commonLength 10 = .ok (.invokevirtual 15, 3) := by decide +kernel
theorem d_ST_commonLength_13 : decode b_ST_commonLength 13 = .ok (.ifCond .ne 5, 3) := by decide +kernel
theorem d_ST_commonLength_16 : decode b_ST_commonLength 16 = .ok (.iconst (-1), 1) := by decide +kernel
theorem d_ST_commonLength_17 : decode b_ST_commonLength 17 = .ok (.ireturn, 1) := by decide +kernel
theorem d_ST_commonLength_18 : decode b_ST_commonLength 18 = .ok (.iload_n 1, 1) := by decide +kernel
theorem d_ST_commonLength_19 : decode b_ST_commonLength 19 = .ok (.iload_n 2, 1) := by decide +kernel
theorem d_ST_commonLength_20 : decode b_ST_commonLength 20 = .ok (.invokestatic 47, 3) := by decide +kernel
theorem d_ST_commonLength_23 : decode b_ST_commonLength 23 = .ok (.iconst 1, 1) := by decide +kernel
theorem d_ST_commonLength_24 : decode b_ST_commonLength 24 = .ok (.iadd, 1) := by decide +kernel
theorem d_ST_commonLength_25 : decode b_ST_commonLength 25 = .ok (.istore_n 3, 1) := by decide +kernel
theorem d_ST_commonLength_26 : decode b_ST_commonLength 26 = .ok (.iconst 1, 1) := by decide +kernel
theorem d_ST_commonLength_27 : decode b_ST_commonLength 27 = .ok (.istore 4, 2) := by decide +kernel
theorem d_ST_commonLength_29 : decode b_ST_commonLength 29 = .ok (.iload 4, 2) := by decide +kernel
theorem d_ST_commonLength_31 : decode b_ST_commonLength 31 = .ok (.iload_n 3, 1) := by decide +kernel
theorem d_ST_commonLength_32 : decode b_ST_commonLength 32 = .ok (.if_icmp .gt 38, 3) := by decide +kernel
theorem d_ST_commonLength_35 : decode b_ST_commonLength 35 = .ok (.aload_n 0, 1) := by decide +kernel
theorem d_ST_commonLength_36 : decode b_ST_commonLength 36 = .ok (.iload_n 1, 1) := by decide +kernel
theorem d_ST_commonLength_37 : decode b_ST_commonLength 37 = .ok (.iload 4, 2) := by decide +kernel
theorem d_ST_commonLength_39 : decode b_ST_commonLength 39 = .ok (.isub, 1) := by decide +kernel
theorem d_ST_commonLength_40 : decode b_ST_commonLength 40 = .ok (.iconst 1, 1) := by decide +kernel
theorem d_ST_commonLength_41 : decode b_ST_commonLength 41 = .ok (.iadd, 1) := by decide +kernel
theorem d_ST_commonLength_42 : decode b_ST_commonLength 42 = .ok (.invokevirtual 44, 3) := by decide +kernel
theorem d_ST_commonLength_45 : decode b_ST_commonLength 45 = .ok (.ifCond .ne 16, 3) := by decide +kernel
theorem d_ST_commonLength_48 : decode b_ST_commonLength 48 = .ok (.aload_n 0, 1) := by decide +kernel
theorem d_ST_commonLength_49 : decode b_ST_commonLength 49 = .ok (.iload_n 2, 1) := by decide +kernel
theorem d_ST_commonLength_50 : decode b_ST_commonLength 50 = .ok (.iload 4, 2) := by decide +kernel
theorem d_ST_commonLength_52 : decode b_ST_commonLength 52 = .ok (.isub, 1) := by decide +kernel
theorem d_ST_commonLength_53 : decode b_ST_commonLength 53 = .ok (.iconst 1, 1) := by decide +kernel
theorem d_ST_commonLength_54 : decode b_ST_commonLength 54 = .ok (.iadd, 1) := by decide +kernel
theorem d_ST_commonLength_55 : decode b_ST_commonLength 55 = .ok (.invokevirtual 44, 3) := by decide +kernel
theorem d_ST_commonLength_58 : decode b_ST_commonLength 58 = .ok (.ifCond .eq 6, 3) := by decide +kernel
theorem d_ST_commonLength_61 : decode b_ST_commonLength 61 = .ok (.iload 4, 2) := by decide +kernel
theorem d_ST_commonLength_63 : decode b_ST_commonLength 63 = .ok (.ireturn, 1) := by decide +kernel
theorem d_ST_commonLength_64 : decode b_ST_commonLength 64 = .ok (.iinc 4 1, 3) := by decide +kernel
theorem d_ST_commonLength_67 : decode b_ST_commonLength 67 = .ok (.goto (-38), 3) := by decide +kernel
theorem d_ST_commonLength_70 : decode b_ST_commonLength 70 = .ok (.iconst (-1), 1) := by decide +kernel
theorem d_ST_commonLength_71 : decode b_ST_commonLength 71 = .ok (.ireturn, 1) := by decide +kernel
theorem d_ST_address_0 : decode b_ST_address 0 = .ok (.aload_n 0, 1) := by decide +kernel
theorem d_ST_address_1 : decode b_ST_address 1 = .ok (.iload_n 1, 1) := by decide +kernel
theorem d_ST_address_2 : decode b_ST_address 2 = .ok (.invokevirtual 19, 3) := by decide +kernel
theorem d_ST_address_5 : decode b_ST_address 5 = .ok (.bipush 16, 2) := by decide +kernel
theorem d_ST_address_7 : decode b_ST_address 7 = .ok (.idiv, 1) := by decide +kernel
theorem d_ST_address_8 : decode b_ST_address 8 = .ok (.aload_n 0, 1) := by decide +kernel
theorem d_ST_address_9 : decode b_ST_address 9 = .ok (.iload_n 1, 1) := by decide +kernel
theorem d_ST_address_10 : decode b_ST_address 10 = .ok (.iconst 2, 1) := by decide +kernel
theorem d_ST_address_11 : decode b_ST_address 11 = .ok (.iadd, 1) := by decide +kernel
theorem d_ST_address_12 : decode b_ST_address 12 = .ok (.invokevirtual 19, 3) := by decide +kernel
theorem d_ST_address_15 : decode b_ST_address 15 = .ok (.bipush 16, 2) := by decide +kernel
theorem d_ST_address_17 : decode b_ST_address 17 = .ok (.idiv, 1) := by decide +kernel
theorem d_ST_address_18 : decode b_ST_address 18 = .ok (.iconst 4, 1) := by decide +kernel
theorem d_ST_address_19 : decode b_ST_address 19 = .ok (.imul, 1) := by decide +kernel
theorem d_ST_address_20 : decode b_ST_address 20 = .ok (.iadd, 1) := by decide +kernel
theorem d_ST_address_21 : decode b_ST_address 21 = .ok (.istore_n 2, 1) := by decide +kernel
theorem d_ST_address_22 : decode b_ST_address 22 = .ok (.iload_n 2, 1) := by decide +kernel
theorem d_ST_address_23 : decode b_ST_address 23 = .ok (.sipush 1000, 3) := by decide +kernel
theorem d_ST_address_26 : decode b_ST_address 26 = .ok (.imul, 1) := by decide +kernel
theorem d_ST_address_27 : decode b_ST_address 27 = .ok (.aload_n 0, 1) := by decide +kernel
theorem d_ST_address_28 : decode b_ST_address 28 = .ok (.iload_n 1, 1) := by decide +kernel
theorem d_ST_address_29 : decode b_ST_address 29 = .ok (.invokevirtual 52, 3) := by decide +kernel
theorem d_ST_address_32 : decode b_ST_address 32 = .ok (.bipush 100, 2) := by decide +kernel
theorem d_ST_address_34 : decode b_ST_address 34 = .ok (.imul, 1) := by decide +kernel
theorem d_ST_address_35 : decode b_ST_address 35 = .ok (.iadd, 1) := by decide +kernel
theorem d_ST_address_36 : decode b_ST_address 36 = .ok (.aload_n 0, 1) := by decide +kernel
theorem d_ST_address_37 : decode b_ST_address 37 = .ok (.iload_n 1, 1) := by decide +kernel
theorem d_ST_address_38 : decode b_ST_address 38 = .ok (.iconst 1, 1) := by decide +kernel
theorem d_ST_address_39 : decode b_ST_address 39 = .ok (.iadd, 1) := by decide +kernel
theorem d_ST_address_40 : decode b_ST_address 40 = .ok (.invokevirtual 52, 3) := by decide +kernel
theorem d_ST_address_43 : decode b_ST_address 43 = .ok (.bipush 10, 2) := by decide +kernel
theorem d_ST_address_45 : decode b_ST_address 45 = .ok (.imul, 1) := by decide +kernel
theorem d_ST_address_46 : decode b_ST_address 46 = .ok (.iadd, 1) := by decide +kernel
theorem d_ST_address_47 : decode b_ST_address 47 = .ok (.aload_n 0, 1) := by decide +kernel
theorem d_ST_address_48 : decode b_ST_address 48 = .ok (.iload_n 1, 1) := by decide +kernel
theorem d_ST_address_49 : decode b_ST_address 49 = .ok (.iconst 2, 1) := by decide +kernel
theorem d_ST_address_50 : decode b_ST_address 50 = .ok (.iadd, 1) := by decide +kernel
theorem d_ST_address_51 : decode b_ST_address 51 = .ok (.invokevirtual 52, 3) := by decide +kernel
theorem d_ST_address_54 : decode b_ST_address 54 = .ok (.iadd, 1) := by decide +kernel
theorem d_ST_address_55 : decode b_ST_address 55 = .ok (.ireturn, 1) := by decide +kernel
theorem d_ST_writeAddress_0 : decode b_ST_writeAddress 0 = .ok (.iload_n 2, 1) := by decide +kernel
theorem d_ST_writeAddress_1 : decode b_ST_writeAddress 1 = .ok (.sipush 1000, 3) := by decide +kernel
theorem d_ST_writeAddress_4 : decode b_ST_writeAddress 4 = .ok (.idiv, 1) := by decide +kernel
theorem d_ST_writeAddress_5 : decode b_ST_writeAddress 5 = .ok (.istore_n 3, 1) := by decide +kernel
theorem d_ST_writeAddress_6 : decode b_ST_writeAddress 6 = .ok (.aload_n 0, 1) := by decide +kernel
theorem d_ST_writeAddress_7 : decode b_ST_writeAddress 7 = .ok (.iload_n 1, 1) := by decide +kernel
theorem d_ST_writeAddress_8 : decode b_ST_writeAddress 8 = .ok (.iconst 2, 1) := by decide +kernel
theorem d_ST_writeAddress_9 : decode b_ST_writeAddress 9 = .ok (.isub, 1) := by decide +kernel
theorem d_ST_writeAddress_10 : decode b_ST_writeAddress 10 = .ok (.iload_n 2, 1) := by decide +kernel
theorem d_ST_writeAddress_11 : decode b_ST_writeAddress 11 = .ok (.bipush 100, 2) := by decide +kernel
theorem d_ST_writeAddress_13 : decode b_ST_writeAddress 13 = .ok (.idiv, 1) := by decide +kernel
theorem d_ST_writeAddress_14 : decode b_ST_writeAddress 14 = .ok (.bipush 10, 2) := by decide +kernel
theorem d_ST_writeAddress_16 : decode b_ST_writeAddress 16 = .ok (.irem, 1) := by decide +kernel
theorem d_ST_writeAddress_17 : decode b_ST_writeAddress 17 = .ok (.invokestatic 55, 3) := by decide +kernel
theorem d_ST_writeAddress_20 : decode b_ST_writeAddress 20 = .ok (.iload_n 3, 1) := by decide +kernel
theorem d_ST_writeAddress_21 : decode b_ST_writeAddress 21 = .ok (.iconst 4, 1) := by decide +kernel
theorem d_ST_writeAddress_22 : decode b_ST_writeAddress 22 = .ok (.irem, 1) := by decide +kernel
theorem d_ST_writeAddress_23 : decode b_ST_writeAddress 23 = .ok (.bipush 16, 2) := by decide +kernel
theorem d_ST_writeAddress_25 : decode b_ST_writeAddress 25 = .ok (.imul, 1) := by decide +kernel
theorem d_ST_writeAddress_26 : decode b_ST_writeAddress 26 = .ok (.ior, 1) := by decide +kernel
theorem d_ST_writeAddress_27 : decode b_ST_writeAddress 27 = .ok (.invokevirtual 26, 3) := by decide +kernel
theorem d_ST_writeAddress_30 : decode b_ST_writeAddress 30 = .ok (.aload_n 0, 1) := by decide +kernel
theorem d_ST_writeAddress_31 : decode b_ST_writeAddress 31 = .ok (.iload_n 1, 1) := by decide +kernel
theorem d_ST_writeAddress_32 : decode b_ST_writeAddress 32 = .ok (.iconst 1, 1) := by decide +kernel
theorem d_ST_writeAddress_33 : decode b_ST_writeAddress 33 = .ok (.isub, 1) := by decide +kernel
theorem d_ST_writeAddress_34 : decode b_ST_writeAddress 34 = .ok (.iload_n 2, 1) := by decide +kernel
theorem d_ST_writeAddress_35 : decode b_ST_writeAddress 35 = .ok (.bipush 10, 2) := by decide +kernel
theorem d_ST_writeAddress_37 : decode b_ST_writeAddress 37 = .ok (.idiv, 1) := by decide +kernel
theorem d_ST_writeAddress_38 : decode b_ST_writeAddress 38 = .ok (.bipush 10, 2) := by decide +kernel
theorem d_ST_writeAddress_40 : decode b_ST_writeAddress 40 = .ok (.irem, 1) := by decide +kernel
theorem d_ST_writeAddress_41 : decode b_ST_writeAddress 41 = .ok (.invokestatic 55, 3) := by decide +kernel
theorem d_ST_writeAddress_44 : decode b_ST_writeAddress 44 = .ok (.invokevirtual 26, 3) := by decide +kernel
theorem d_ST_writeAddress_47 : decode b_ST_writeAddress 47 = .ok (.aload_n 0, 1) := by decide +kernel
theorem d_ST_writeAddress_48 : decode b_ST_writeAddress 48 = .ok (.iload_n 1, 1) := by decide +kernel
theorem d_ST_writeAddress_49 : decode b_ST_writeAddress 49 = .ok (.iload_n 2, 1) := by decide +kernel
theorem d_ST_writeAddress_50 : decode b_ST_writeAddress 50 = .ok (.bipush 10, 2) := by decide +kernel
theorem d_ST_writeAddress_52 : decode b_ST_writeAddress 52 = .ok (.irem, 1) := by decide +kernel
theorem d_ST_writeAddress_53 : decode b_ST_writeAddress 53 = .ok (.invokestatic 55, 3) := by decide +kernel
theorem d_ST_writeAddress_56 : decode b_ST_writeAddress 56 = .ok (.iload_n 3, 1) := by decide +kernel
theorem d_ST_writeAddress_57 : decode b_ST_writeAddress 57 = .ok (.iconst 4, 1) := by decide +kernel
theorem d_ST_writeAddress_58 : decode b_ST_writeAddress 58 = .ok (.idiv, 1) := by decide +kernel
theorem d_ST_writeAddress_59 : decode b_ST_writeAddress 59 = .ok (.bipush 16, 2) := by decide +kernel
theorem d_ST_writeAddress_61 : decode b_ST_writeAddress 61 = .ok (.imul, 1) := by decide +kernel
theorem d_ST_writeAddress_62 : decode b_ST_writeAddress 62 = .ok (.ior, 1) := by decide +kernel
theorem d_ST_writeAddress_63 : decode b_ST_writeAddress 63 = .ok (.invokevirtual 26, 3) := by decide +kernel
theorem d_ST_writeAddress_66 : decode b_ST_writeAddress 66 = .ok (.return_, 1) := by decide +kernel
theorem d_ST_markCount_0 : decode b_ST_markCount 0 = .ok (.iconst 0, 1) := by decide +kernel
theorem d_ST_markCount_1 : decode b_ST_markCount 1 = .ok (.istore_n 1, 1) := by decide +kernel
theorem d_ST_markCount_2 : decode b_ST_markCount 2 = .ok (.iconst 0, 1) := by decide +kernel
theorem d_ST_markCount_3 : decode b_ST_markCount 3 = .ok (.istore_n 2, 1) := by decide +kernel
theorem d_ST_markCount_4 : decode b_ST_markCount 4 = .ok (.iload_n 2, 1) := by decide +kernel
theorem d_ST_markCount_5 : decode b_ST_markCount 5 = .ok (.aload_n 0, 1) := by decide +kernel
theorem d_ST_markCount_6 : decode b_ST_markCount 6 = .ok (.getfield 9, 3) := by decide +kernel
theorem d_ST_markCount_9 : decode b_ST_markCount 9 = .ok (.arraylength, 1) := by decide +kernel
theorem d_ST_markCount_10 : decode b_ST_markCount 10 = .ok (.if_icmp .ge 20, 3) := by decide +kernel
theorem d_ST_markCount_13 : decode b_ST_markCount 13 = .ok (.aload_n 0, 1) := by decide +kernel
theorem d_ST_markCount_14 : decode b_ST_markCount 14 = .ok (.iload_n 2, 1) := by decide +kernel
theorem d_ST_markCount_15 : decode b_ST_markCount 15 = .ok (.invokevirtual 44, 3) := by decide +kernel
theorem d_ST_markCount_18 : decode b_ST_markCount 18 = .ok (.ifCond .eq 6, 3) := by decide +kernel
theorem d_ST_markCount_21 : decode b_ST_markCount 21 = .ok (.iinc 1 1, 3) := by decide +kernel
theorem d_ST_markCount_24 : decode b_ST_markCount 24 = .ok (.iinc 2 1, 3) := by decide +kernel
theorem d_ST_markCount_27 : decode b_ST_markCount 27 = .ok (.goto (-23), 3) := by decide +kernel
theorem d_ST_markCount_30 : decode b_ST_markCount 30 = .ok (.iload_n 1, 1) := by decide +kernel
theorem d_ST_markCount_31 : decode b_ST_markCount 31 = .ok (.ireturn, 1) := by decide +kernel
