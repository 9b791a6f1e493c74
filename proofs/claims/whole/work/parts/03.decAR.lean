theorem d_AR_init_0 : decode b_AR_init 0 = .ok (.aload_n 0, 1) := by decide +kernel
theorem d_AR_init_1 : decode b_AR_init 1 = .ok (.invokespecial 1, 3) := by decide +kernel
theorem d_AR_init_4 : decode b_AR_init 4 = .ok (.aload_n 0, 1) := by decide +kernel
theorem d_AR_init_5 : decode b_AR_init 5 = .ok (.aload_n 1, 1) := by decide +kernel
theorem d_AR_init_6 : decode b_AR_init 6 = .ok (.putfield 7, 3) := by decide +kernel
theorem d_AR_init_9 : decode b_AR_init 9 = .ok (.aload_n 0, 1) := by decide +kernel
theorem d_AR_init_10 : decode b_AR_init 10 = .ok (.aload_n 1, 1) := by decide +kernel
theorem d_AR_init_11 : decode b_AR_init 11 = .ok (.invokevirtual 13, 3) := by decide +kernel
theorem d_AR_init_14 : decode b_AR_init 14 = .ok (.newarray .int, 2) := by decide +kernel
theorem d_AR_init_16 : decode b_AR_init 16 = .ok (.putfield 19, 3) := by decide +kernel
theorem d_AR_init_19 : decode b_AR_init 19 = .ok (.return_, 1) := by decide +kernel
theorem d_AR_readDigits_0 : decode b_AR_readDigits 0 = .ok (.iconst 0, 1) := by decide +kernel
theorem d_AR_readDigits_1 : decode b_AR_readDigits 1 = .ok (.istore 4, 2) := by decide +kernel
theorem d_AR_readDigits_3 : decode b_AR_readDigits 3 = .ok (.iload 4, 2) := by decide +kernel
theorem d_AR_readDigits_5 : decode b_AR_readDigits 5 = .ok (.iload_n 3, 1) := by decide +kernel
theorem d_AR_readDigits_6 : decode b_AR_readDigits 6 = .ok (.if_icmp .ge 37, 3) := by decide +kernel
theorem d_AR_readDigits_9 : decode b_AR_readDigits 9 = .ok (.aload_n 0, 1) := by decide +kernel
theorem d_AR_readDigits_10 : decode b_AR_readDigits 10 = .ok (.getfield 19, 3) := by decide +kernel
theorem d_AR_readDigits_13 : decode b_AR_readDigits 13 = .ok (.iload 4, 2) := by decide +kernel
theorem d_AR_readDigits_15 : decode b_AR_readDigits 15 = .ok (.iload 4, 2) := by decide +kernel
theorem d_AR_readDigits_17 : decode b_AR_readDigits 17 = .ok (.iload_n 2, 1) := by decide +kernel
theorem d_AR_readDigits_18 : decode b_AR_readDigits 18 = .ok (.if_icmp .ge 17, 3) := by decide +kernel
theorem d_AR_readDigits_21 : decode b_AR_readDigits 21 = .ok (.aload_n 0, 1) := by decide +kernel
theorem d_AR_readDigits_22 : decode b_AR_readDigits 22 = .ok (.getfield 7, 3) := by decide +kernel
theorem d_AR_readDigits_25 : decode b_AR_readDigits 25 = .ok (.iload_n 1, 1) := by decide +kernel
theorem d_AR_readDigits_26 : decode b_AR_readDigits 26 = .ok (.iload 4, 2) := by decide +kernel
theorem d_AR_readDigits_28 : decode b_AR_readDigits 28 = .ok (.isub, 1) := by decide +kernel
theorem d_AR_readDigits_29 : decode b_AR_readDigits 29 = .ok (.invokevirtual 23, 3) := by decide +kernel
theorem d_AR_readDigits_32 : decode b_AR_readDigits 32 = .ok (.goto 4, 3) := by decide +kernel
theorem d_AR_readDigits_35 : decode b_AR_readDigits 35 = .ok (.iconst 0, 1) := by decide +kernel
theorem d_AR_readDigits_36 : decode b_AR_readDigits 36 = .ok (.iastore, 1) := by decide +kernel
theorem d_AR_readDigits_37 : decode b_AR_readDigits 37 = .ok (.iinc 4 1, 3) := by decide +kernel
theorem d_AR_readDigits_40 : decode b_AR_readDigits 40 = .ok (.goto (-37), 3) := by decide +kernel
theorem d_AR_readDigits_43 : decode b_AR_readDigits 43 = .ok (.return_, 1) := by decide +kernel
theorem d_AR_replace_0 : decode b_AR_replace 0 = .ok (.iconst 0, 1) := by decide +kernel
theorem d_AR_replace_1 : decode b_AR_replace 1 = .ok (.istore_n 3, 1) := by decide +kernel
theorem d_AR_replace_2 : decode b_AR_replace 2 = .ok (.iload_n 3, 1) := by decide +kernel
theorem d_AR_replace_3 : decode b_AR_replace 3 = .ok (.iload_n 2, 1) := by decide +kernel
theorem d_AR_replace_4 : decode b_AR_replace 4 = .ok (.if_icmp .ge 28, 3) := by decide +kernel
theorem d_AR_replace_7 : decode b_AR_replace 7 = .ok (.aload_n 0, 1) := by decide +kernel
theorem d_AR_replace_8 : decode b_AR_replace 8 = .ok (.getfield 7, 3) := by decide +kernel
theorem d_AR_replace_11 : decode b_AR_replace 11 = .ok (.iload_n 1, 1) := by decide +kernel
theorem d_AR_replace_12 : decode b_AR_replace 12 = .ok (.iload_n 3, 1) := by decide +kernel
theorem d_AR_replace_13 : decode b_AR_replace 13 = .ok (.isub, 1) := by decide +kernel
theorem d_AR_replace_14 : decode b_AR_replace 14 = .ok (.aload_n 0, 1) := by decide +kernel
theorem d_AR_replace_15 : decode b_AR_replace 15 = .ok (.getfield 19, 3) := by decide +kernel
theorem d_AR_replace_18 : decode b_AR_replace 18 = .ok (.iload_n 3, 1) := by decide +kernel
theorem d_AR_replace_19 : decode b_AR_replace 19 = .ok (.iaload, 1) := by decide +kernel
theorem d_AR_replace_20 : decode b_AR_replace 20 = .ok (.invokestatic 27, 3) := by decide +kernel
theorem d_AR_replace_23 : decode b_AR_replace 23 = .ok (.invokevirtual 32, 3) := by decide +kernel
theorem d_AR_replace_26 : decode b_AR_replace 26 = .ok (.iinc 3 1, 3) := by decide +kernel
theorem d_AR_replace_29 : decode b_AR_replace 29 = .ok (.goto (-27), 3) := by decide +kernel
theorem d_AR_replace_32 : decode b_AR_replace 32 = .ok (.return_, 1) := by decide +kernel
theorem d_AR_add_0 : decode b_AR_add 0 = .ok (.aload_n 0, 1) := by decide +kernel
theorem d_AR_add_1 : decode b_AR_add 1 = .ok (.getfield 7, 3) := by decide +kernel
theorem d_AR_add_4 : decode b_AR_add 4 = .ok (.iload_n 1, 1) := by decide +kernel
theorem d_AR_add_5 : decode b_AR_add 5 = .ok (.invokevirtual 36, 3) := by decide +kernel
theorem d_AR_add_8 : decode b_AR_add 8 = .ok (.istore_n 3, 1) := by decide +kernel
theorem d_AR_add_9 : decode b_AR_add 9 = .ok (.iconst 0, 1) := by decide +kernel
theorem d_AR_add_10 : decode b_AR_add 10 = .ok (.istore 4, 2) := by decide +kernel
theorem d_AR_add_12 : decode b_AR_add 12 = .ok (.iconst 0, 1) := by decide +kernel
theorem d_AR_add_13 : decode b_AR_add 13 = .ok (.istore 5, 2) := by decide +kernel
theorem d_AR_add_15 : decode b_AR_add 15 = .ok (.iload 5, 2) := by decide +kernel
theorem d_AR_add_17 : decode b_AR_add 17 = .ok (.iload_n 2, 1) := by decide +kernel
theorem d_AR_add_18 : decode b_AR_add 18 = .ok (.if_icmp .ge 70, 3) := by decide +kernel
theorem d_AR_add_21 : decode b_AR_add 21 = .ok (.aload_n 0, 1) := by decide +kernel
theorem d_AR_add_22 : decode b_AR_add 22 = .ok (.getfield 7, 3) := by decide +kernel
theorem d_AR_add_25 : decode b_AR_add 25 = .ok (.iload_n 1, 1) := by decide +kernel
theorem d_AR_add_26 : decode b_AR_add 26 = .ok (.iload 5, 2) := by decide +kernel
theorem d_AR_add_28 : decode b_AR_add 28 = .ok (.isub, 1) := by decide +kernel
theorem d_AR_add_29 : decode b_AR_add 29 = .ok (.invokevirtual 23, 3) := by decide +kernel
theorem d_AR_add_32 : decode b_AR_add 32 = .ok (.aload_n 0, 1) := by decide +kernel
theorem d_AR_add_33 : decode b_AR_add 33 = .ok (.getfield 19, 3) := by decide +kernel
theorem d_AR_add_36 : decode b_AR_add 36 = .ok (.iload 5, 2) := by decide +kernel
theorem d_AR_add_38 : decode b_AR_add 38 = .ok (.iaload, 1) := by decide +kernel
theorem d_AR_add_39 : decode b_AR_add 39 = .ok (.iadd, 1) := by decide +kernel
theorem d_AR_add_40 : decode b_AR_add 40 = .ok (.iload 4, 2) := by decide +kernel
theorem d_AR_add_42 : decode b_AR_add 42 = .ok (.iadd, 1) := by decide +kernel
theorem d_AR_add_43 : decode b_AR_add 43 = .ok (.istore 6, 2) := by decide +kernel
theorem d_AR_add_45 : decode b_AR_add 45 = .ok (.iload 6, 2) := by decide +kernel
theorem d_AR_add_47 : decode b_AR_add 47 = .ok (.bipush 10, 2) := by decide +kernel
theorem d_AR_add_49 : decode b_AR_add 49 = .ok (.idiv, 1) := by decide +kernel
theorem d_AR_add_50 : decode b_AR_add 50 = .ok (.istore 4, 2) := by decide +kernel
theorem d_AR_add_52 : decode b_AR_add 52 = .ok (.aload_n 0, 1) := by decide +kernel
theorem d_AR_add_53 : decode b_AR_add 53 = .ok (.getfield 7, 3) := by decide +kernel
theorem d_AR_add_56 : decode b_AR_add 56 = .ok (.iload_n 1, 1) := by decide +kernel
theorem d_AR_add_57 : decode b_AR_add 57 = .ok (.iload 5, 2) := by decide +kernel
theorem d_AR_add_59 : decode b_AR_add 59 = .ok (.isub, 1) := by decide +kernel
theorem d_AR_add_60 : decode b_AR_add 60 = .ok (.iload 6, 2) := by decide +kernel
theorem d_AR_add_62 : decode b_AR_add 62 = .ok (.bipush 10, 2) := by decide +kernel
theorem d_AR_add_64 : decode b_AR_add 64 = .ok (.irem, 1) := by decide +kernel
theorem d_AR_add_65 : decode b_AR_add 65 = .ok (.invokestatic 27, 3) := by decide +kernel
theorem d_AR_add_68 : decode b_AR_add 68 = .ok (.iload 5, 2) := by decide +kernel
theorem d_AR_add_70 : decode b_AR_add 70 = .ok (.ifCond .ne 7, 3) := by decide +kernel
theorem d_AR_add_73 : decode b_AR_add 73 = .ok (.iload_n 3, 1) := by decide +kernel
theorem d_AR_add_74 : decode b_AR_add 74 = .ok (.goto 4, 3) := by decide +kernel
theorem d_AR_add_77 : decode b_AR_add 77 = .ok (.iconst 0, 1) := by decide +kernel
theorem d_AR_add_78 : decode b_AR_add 78 = .ok (.ior, 1) := by decide +kernel
theorem d_AR_add_79 : decode b_AR_add 79 = .ok (.invokevirtual 32, 3) := by decide +kernel
theorem d_AR_add_82 : decode b_AR_add 82 = .ok (.iinc 5 1, 3) := by decide +kernel
theorem d_AR_add_85 : decode b_AR_add 85 = .ok (.goto (-70), 3) := by decide +kernel
theorem d_AR_add_88 : decode b_AR_add 88 = .ok (.iload 4, 2) := by decide +kernel
theorem d_AR_add_90 : decode b_AR_add 90 = .ok (.ifCond .le 7, 3) := by decide +kernel
theorem d_AR_add_93 : decode b_AR_add 93 = .ok (.iconst 1, 1) := by decide +kernel
theorem d_AR_add_94 : decode b_AR_add 94 = .ok (.goto 4, 3) := by decide +kernel
theorem d_AR_add_97 : decode b_AR_add 97 = .ok (.iconst 0, 1) := by decide +kernel
theorem d_AR_add_98 : decode b_AR_add 98 = .ok (.ireturn, 1) := by decide +kernel
theorem d_AR_subtract_0 : decode b_AR_subtract 0 = .ok (.iconst 0, 1) := by decide +kernel
theorem d_AR_subtract_1 : decode b_AR_subtract 1 = .ok (.istore 4, 2) := by decide +kernel
theorem d_AR_subtract_3 : decode b_AR_subtract 3 = .ok (.iconst 0, 1) := by decide +kernel
theorem d_AR_subtract_4 : decode b_AR_subtract 4 = .ok (.istore 5, 2) := by decide +kernel
theorem d_AR_subtract_6 : decode b_AR_subtract 6 = .ok (.iload 5, 2) := by decide +kernel
theorem d_AR_subtract_8 : decode b_AR_subtract 8 = .ok (.iload_n 2, 1) := by decide +kernel
theorem d_AR_subtract_9 : decode b_AR_subtract 9 = .ok (.if_icmp .ge 88, 3) := by decide +kernel
theorem d_AR_subtract_12 : decode b_AR_subtract 12 = .ok (.aload_n 0, 1) := by decide +kernel
theorem d_AR_subtract_13 : decode b_AR_subtract 13 = .ok (.getfield 7, 3) := by decide +kernel
theorem d_AR_subtract_16 : decode b_AR_subtract 16 = .ok (.iload_n 1, 1) := by decide +kernel
theorem d_AR_subtract_17 : decode b_AR_subtract 17 = .ok (.iload 5, 2) := by decide +kernel
theorem d_AR_subtract_19 : decode b_AR_subtract 19 = .ok (.isub, 1) := by decide +kernel
theorem d_AR_subtract_20 : decode b_AR_subtract 20 = .ok (.invokevirtual 23, 3) := by decide +kernel
theorem d_AR_subtract_23 : decode b_AR_subtract 23 = .ok (.istore 6, 2) := by decide +kernel
theorem d_AR_subtract_25 : decode b_AR_subtract 25 = .ok (.iload_n 3, 1) := by decide +kernel
theorem d_AR_subtract_26 : decode b_AR_subtract 26 = .ok (.ifCond .eq 16, 3) := by decide +kernel
theorem d_AR_subtract_29 : decode b_AR_subtract 29 = .ok (.aload_n 0, 1) := by decide +kernel
theorem d_AR_subtract_30 : decode b_AR_subtract 30 = .ok (.getfield 19, 3) := by decide +kernel
theorem d_AR_subtract_33 : decode b_AR_subtract 33 = .ok (.iload 5, 2) := by decide +kernel
theorem d_AR_subtract_35 : decode b_AR_subtract 35 = .ok (.iaload, 1) := by decide +kernel
theorem d_AR_subtract_36 : decode b_AR_subtract 36 = .ok (.iload 6, 2) := by decide +kernel
theorem d_AR_subtract_38 : decode b_AR_subtract 38 = .ok (.isub, 1) := by decide +kernel
theorem d_AR_subtract_39 : decode b_AR_subtract 39 = .ok (.goto 13, 3) := by decide +kernel
theorem d_AR_subtract_42 : decode b_AR_subtract 42 = .ok (.iload 6, 2) := by decide +kernel
theorem d_AR_subtract_44 : decode b_AR_subtract 44 = .ok (.aload_n 0, 1) := by decide +kernel
theorem d_AR_subtract_45 : decode b_AR_subtract 45 = .ok (.getfield 19, 3) := by decide +kernel
theorem d_AR_subtract_48 : decode b_AR_subtract 48 = .ok (.iload 5, 2) := by decide +kernel
theorem d_AR_subtract_50 : decode b_AR_subtract 50 = .ok (.iaload, 1) := by decide +kernel
theorem d_AR_subtract_51 : decode b_AR_subtract 51 = .ok (.isub, 1) := by decide +kernel
theorem d_AR_subtract_52 : decode b_AR_subtract 52 = .ok (.iload 4, 2) := by decide +kernel
theorem d_AR_subtract_54 : decode b_AR_subtract 54 = .ok (.isub, 1) := by decide +kernel
theorem d_AR_subtract_55 : decode b_AR_subtract 55 = .ok (.istore 7, 2) := by decide +kernel
theorem d_AR_subtract_57 : decode b_AR_subtract 57 = .ok (.iload 7, 2) := by decide +kernel
theorem d_AR_subtract_59 : decode b_AR_subtract 59 = .ok (.ifCond .ge 7, 3) := by decide +kernel
theorem d_AR_subtract_62 : decode b_AR_subtract 62 = .ok (.iconst 1, 1) := by decide +kernel
theorem d_AR_subtract_63 : decode b_AR_subtract 63 = .ok (.goto 4, 3) := by decide +kernel
theorem d_AR_subtract_66 : decode b_AR_subtract 66 = .ok (.iconst 0, 1) := by decide +kernel
theorem d_AR_subtract_67 : decode b_AR_subtract 67 = .ok (.istore 4, 2) := by decide +kernel
theorem d_AR_subtract_69 : decode b_AR_subtract 69 = .ok (.aload_n 0, 1) := by decide +kernel
theorem d_AR_subtract_70 : decode b_AR_subtract 70 = .ok (.getfield 7, 3) := by decide +kernel
theorem d_AR_subtract_73 : decode b_AR_subtract 73 = .ok (.iload_n 1, 1) := by decide +kernel
theorem d_AR_subtract_74 : decode b_AR_subtract 74 = .ok (.iload 5, 2) := by decide +kernel
theorem d_AR_subtract_76 : decode b_AR_subtract 76 = .ok (.isub, 1) := by decide +kernel
theorem d_AR_subtract_77 : decode b_AR_subtract 77 = .ok (.iload 7, 2) := by decide +kernel
theorem d_AR_subtract_79 : decode b_AR_subtract 79 = .ok (.bipush 10, 2) := by decide +kernel
theorem d_AR_subtract_81 : decode b_AR_subtract 81 = .ok (.iload 4, 2) := by decide +kernel
theorem d_AR_subtract_83 : decode b_AR_subtract 83 = .ok (.imul, 1) := by decide +kernel
theorem d_AR_subtract_84 : decode b_AR_subtract 84 = .ok (.iadd, 1) := by decide +kernel
theorem d_AR_subtract_85 : decode b_AR_subtract 85 = .ok (.invokestatic 27, 3) := by decide +kernel
theorem d_AR_subtract_88 : decode b_AR_subtract 88 = .ok (.invokevirtual 32, 3) := by decide +kernel
theorem d_AR_subtract_91 : decode b_AR_subtract 91 = .ok (.iinc 5 1, 3) := by decide +kernel
theorem d_AR_subtract_94 : decode b_AR_subtract 94 = .ok (.goto (-88), 3) := by decide +kernel
theorem d_AR_subtract_97 : decode b_AR_subtract 97 = .ok (.return_, 1) := by decide +kernel
theorem d_AR_isGreater_0 : decode b_AR_isGreater 0 = .ok (.iload_n 2, 1) := by decide +kernel
theorem d_AR_isGreater_1 : decode b_AR_isGreater 1 = .ok (.iconst 1, 1) := by decide +kernel
theorem d_AR_isGreater_2 : decode b_AR_isGreater 2 = .ok (.isub, 1) := by decide +kernel
theorem d_AR_isGreater_3 : decode b_AR_isGreater 3 = .ok (.istore_n 3, 1) := by decide +kernel
theorem d_AR_isGreater_4 : decode b_AR_isGreater 4 = .ok (.iload_n 3, 1) := by decide +kernel
theorem d_AR_isGreater_5 : decode b_AR_isGreater 5 = .ok (.ifCond .lt 44, 3) := by decide +kernel
theorem d_AR_isGreater_8 : decode b_AR_isGreater 8 = .ok (.aload_n 0, 1) := by decide +kernel
theorem d_AR_isGreater_9 : decode b_AR_isGreater 9 = .ok (.getfield 19, 3) := by decide +kernel
theorem d_AR_isGreater_12 : decode b_AR_isGreater 12 = .ok (.iload_n 3, 1) := by decide +kernel
theorem d_AR_isGreater_13 : decode b_AR_isGreater 13 = .ok (.iaload, 1) := by decide +kernel
theorem d_AR_isGreater_14 : decode b_AR_isGreater 14 = .ok (.aload_n 0, 1) := by decide +kernel
theorem d_AR_isGreater_15 : decode b_AR_isGreater 15 = .ok (.getfield 7, 3) := by decide +kernel
theorem d_AR_isGreater_18 : decode b_AR_isGreater 18 = .ok (.iload_n 1, 1) := by decide +kernel
theorem d_AR_isGreater_19 : decode b_AR_isGreater 19 = .ok (.iload_n 3, 1) := by decide +kernel
theorem d_AR_isGreater_20 : decode b_AR_isGreater 20 = .ok (.isub, 1) := by decide +kernel
theorem d_AR_isGreater_21 : decode b_AR_isGreater 21 = .ok (.invokevirtual 23, 3) := by decide +kernel
theorem d_AR_isGreater_24 : decode b_AR_isGreater 24 = .ok (.isub, 1) := by decide +kernel
theorem d_AR_isGreater_25 : decode b_AR_isGreater 25 = .ok (.istore 4, 2) := by decide +kernel
theorem d_AR_isGreater_27 : decode b_AR_isGreater 27 = .ok (.iload 4, 2) := by decide +kernel
theorem d_AR_isGreater_29 : decode b_AR_isGreater 29 = .ok (.ifCond .eq 14, 3) := by decide +kernel
theorem d_AR_isGreater_32 : decode b_AR_isGreater 32 = .ok (.iload 4, 2) := by decide +kernel
theorem d_AR_isGreater_34 : decode b_AR_isGreater 34 = .ok (.ifCond .le 7, 3) := by decide +kernel
theorem d_AR_isGreater_37 : decode b_AR_isGreater 37 = .ok (.iconst 1, 1) := by decide +kernel
theorem d_AR_isGreater_38 : decode b_AR_isGreater 38 = .ok (.goto 4, 3) := by decide +kernel
theorem d_AR_isGreater_41 : decode b_AR_isGreater 41 = .ok (.iconst 0, 1) := by decide +kernel
theorem d_AR_isGreater_42 : decode b_AR_isGreater 42 = .ok (.ireturn, 1) := by decide +kernel
theorem d_AR_isGreater_43 : decode b_AR_isGreater 43 = .ok (.iinc 3 (-1), 3) := by decide +kernel
theorem d_AR_isGreater_46 : decode b_AR_isGreater 46 = .ok (.goto (-42), 3) := by decide +kernel
theorem d_AR_isGreater_49 : decode b_AR_isGreater 49 = .ok (.iconst 0, 1) := by decide +kernel
theorem d_AR_isGreater_50 : decode b_AR_isGreater 50 = .ok (.ireturn, 1) := by decide +kernel
